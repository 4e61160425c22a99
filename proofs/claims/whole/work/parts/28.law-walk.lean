set_option maxHeartbeats 40000000 in
set_option maxRecDepth 100000 in
theorem t_L_law {p : Program} {l : Launch} {e : Env} {s : State} {m : MethodId} {below : List Frame} {meth : Method} {c : Code} {D : va_G} {cs : Nat → ClassId} {b L : Nat} {xs : Nat → Int32} (hC : MAt p s m #[Value.ref b] meth c RL cL_law 8 ret wsL_law D cs) (hfl : l.stackTraces = false) {sa : Nat → Nat} (hTW : TW sa s) (hTZ : TZ (fun q : Nat => s.heap.size ≤ q) s s.heap) (hX : va_X b L xs s s.heap) (hbl : b < s.heap.size) (mq : Nat → Nat) (o : Nat) (x : Nat → Nat) (tq : Nat → Nat) (h : Nat → Nat) (a : Nat → Nat → Nat) : ∀ (n : Nat) (M : MS) (f : (Nat → Int64)) (S : XO) (tx : TS) (hs : HS) (Ls : (Nat → LnS)) (x4 : Int32) (j : Nat), n + j ≤ 600 → wl_L_law L xs n M f S tx hs Ls x4 → ∀ (H : Heap) (locs : List Loc), va_P D vwCl (w_Mod cs mq M ++ w_Out cs o f ++ w_Xo cs x tq h a S ++ w_Text cs tq tx ++ w_Hist cs h a hs ++ linesW cs a 18 Ls) H → va_D (fun q : Nat => s.heap.size ≤ q) (w_Mod cs mq M ++ w_Out cs o f ++ w_Xo cs x tq h a S ++ w_Text cs tq tx ++ w_Hist cs h a hs ++ linesW cs a 18 Ls) → va_S (fun q : Nat => s.heap.size ≤ q) s.heap H locs → ∀ ls : Array Slot, lv_has ls 8 [(0, .ref b), (1, .ref (x 0)), (2, .ref (mq 0)), (3, .ref o), (4, .int x4)] → W p l e room_1 s m #[Value.ref b] below meth c H locs (1000 + 3 * j) (20000 + 18 * j) (lw_Z below #[Value.ref b] s) (F0 m 23 ls []) := by
  obtain ⟨hx, hb, hr, hml, hown, hts, hlocks, hKK⟩ := id hC
  have hK := hKK.1
  have hA : ∀ q : Nat, s.heap.size ≤ q → (fun q : Nat => s.heap.size ≤ q) q := fun _ h => h
  have hbA : ¬ (fun q : Nat => s.heap.size ≤ q) b := Nat.not_le.mpr hbl
  intro n
  induction n with
  | zero =>
    intro M f S tx hs Ls x4 j hj hw
    exact False.elim hw
  | succ n ih =>
    intro M f S tx hs Ls x4 j hj hw H locs hP hD hS ls hl
    refine lv_iload hx hb dL_law_23 (lv_at hl 4 rfl) ?_
    refine lv_aload_n hx hb dL_law_25 rfl (lv_at hl 0 rfl) ?_
    refine va_slen hx hb hX hbl hbA hS dL_law_26 ?_
    refine lv_iconst (v := (4 : Int32)) hx hb dL_law_27 (by decide) ?_
    refine lv_isub hx hb dL_law_28 ?_
    refine lv_icmp_gt (tgt := 1997) hx hb dL_law_29 (by decide) (fun c1 => ?_) (fun c1 => ?_)
    · have hw := hw.1 c1
      refine lv_iconst (v := (1 : Int32)) hx hb dL_law_1997 (by decide) ?_
      refine va_forget (fun q hq => hS.2.2 q hq) ?_
      refine W.widen (k := 601024) (n := 7293034) (by omega) (by omega) ?_
      exact lw_ret hx hb hr hlocks dL_law_1998
    · have hw := hw.2 c1
      refine lv_aload_n hx hb dL_law_32 rfl (lv_at hl 0 rfl) ?_
      refine lv_iload hx hb dL_law_33 (lv_at hl 4 rfl) ?_
      obtain ⟨h2, hw⟩ := hw
      refine va_sld hx hb hX hbl hbA hS h2 dL_law_35 ?_
      refine lv_bipush (v := (31 : Int32)) hx hb dL_law_36 (by decide) ?_
      refine lv_iand hx hb dL_law_38 ?_
      by_cases c3_0 : ((xs x4.toNatClampNeg) &&& (31 : Int32)) = 0
      · have hw := hw.1 c3_0
        refine lv_tableIn (off := 133) (tgt := 172) hx hb dL_law_39 (by rw [c3_0]; decide) (by rw [c3_0]; decide) (by rw [c3_0]; rfl) (by decide) ?_
        refine lv_aload_n hx hb dL_law_172 rfl (lv_at hl 1 rfl) ?_
        refine lv_aload_n hx hb dL_law_173 rfl (lv_at hl 0 rfl) ?_
        refine lv_iload hx hb dL_law_174 (lv_at hl 4 rfl) ?_
        refine lv_iconst (v := (1 : Int32)) hx hb dL_law_176 (by decide) ?_
        refine lv_iadd hx hb dL_law_177 ?_
        obtain ⟨h4, hw⟩ := hw
        refine va_sld hx hb hX hbl hbA hS h4 dL_law_178 ?_
        refine lv_aload_n hx hb dL_law_179 rfl (lv_at hl 3 rfl) ?_
        have hPx := z_perm_P z_lo hP
        have hDx := z_perm_D z_lo hD
        have hPc := (z_app_P hPx).1
        have hDc := (z_app_D hDx).1
        have hFc := z_free hDx hS hA
        refine vx_calli (vx_runSX (As := [.ref (x 0), .int (xs (x4 + (1 : Int32)).toNatClampNeg), .ref o]) (rest := []) ⟨hx, hb, hml, hown, hts⟩ (c_L_append l hfl D cs o x tq h a H.size sa f S tx hs Ls (xs (x4 + (1 : Int32)).toNatClampNeg) _ hw) (vx_cwSW 3 hts gL_law_L_append rfl rfl rfl (by decide +kernel) ⟨Nat.le_of_ble_eq_true rfl, Nat.le_of_ble_eq_true rfl⟩) (PX_S hPc hDc hKK hTW hTZ hS hFc) rfl rfl hl.1 rfl (lv_room (Nat.le_of_ble_eq_true rfl)) dL_law_180 ⟨by show _ ≤ 601024; omega, by show _ ≤ 7293034; omega⟩) hS (fun q _ h => hFc q h) hFc (fun q _ h => hFc q h) ?_ (fun r5 u5 t H locs ht hvm hw hB hz1 hk1 hS => ?_)
        · intro E ce q9 u5 t H locs ht hvm hpx hB hz1 hk1 hS hq9 hce hcl
          exact hpx.elim
        obtain ⟨u5_0, u5_1, u5_2, u5_3, u5_4⟩ := u5
        obtain ⟨hP1, hD1⟩ := hB
        rw [ht] at hP1
        obtain ⟨hPx, hDx⟩ := z_join hPx hDx hk1 hFc hP1 hD1
        have hP : va_P D vwCl (w_Mod cs mq M ++ w_Out cs o u5_0 ++ w_Xo cs x tq h a u5_1 ++ w_Text cs tq u5_2 ++ w_Hist cs h a u5_3 ++ linesW cs a 18 u5_4) H := z_perm_P z_lob hPx
        have hD : va_D (fun q : Nat => s.heap.size ≤ q) (w_Mod cs mq M ++ w_Out cs o u5_0 ++ w_Xo cs x tq h a u5_1 ++ w_Text cs tq u5_2 ++ w_Hist cs h a u5_3 ++ linesW cs a 18 u5_4) := z_perm_D z_lob hDx
        refine lv_istore (lv' := [(5, .int r5), (0, .ref b), (1, .ref (x 0)), (2, .ref (mq 0)), (3, .ref o), (4, .int x4)]) hx hb dL_law_183 hl (by decide) rfl (fun ls hl => ?_)
        refine lv_aload_n hx hb dL_law_185 rfl (lv_at hl 3 rfl) ?_
        refine lv_aload_n hx hb dL_law_186 rfl (lv_at hl 1 rfl) ?_
        refine lv_iload hx hb dL_law_187 (lv_at hl 5 rfl) ?_
        refine lv_iconst (v := (1 : Int32)) hx hb dL_law_189 (by decide) ?_
        refine lv_iadd hx hb dL_law_190 ?_
        obtain ⟨h6, hw⟩ := hw
        refine va_sld hx hb hX hbl hbA hS h6 dL_law_191 ?_
        have hPx := z_perm_P z_lm hP
        have hDx := z_perm_D z_lm hD
        have hPc := (z_app_P hPx).1
        have hDc := (z_app_D hDx).1
        have hFc := z_free hDx hS hA
        refine va_calli (va_runV (As := [.int (xs (x4 + (1 : Int32)).toNatClampNeg)]) (rest := []) ⟨hx, hb, hml, hown, hts⟩ (c_X4_append l D cs mq H.size M (xs (x4 + (1 : Int32)).toNatClampNeg) _ hw) (cwV 1 hts gL_law_X4_append rfl rfl rfl (by decide +kernel) ⟨Nat.le_of_ble_eq_true rfl, Nat.le_of_ble_eq_true rfl⟩) (PC_V hPc hDc hKK 0 4 rfl rfl) rfl rfl hl.1 rfl (lv_room (Nat.le_of_ble_eq_true rfl)) dL_law_192 ⟨by show _ ≤ 601024; omega, by show _ ≤ 7293034; omega⟩) hS (fun q _ h => hFc q h) hFc (fun r7 u7 t H locs ht hvm hw hB hz1 hk1 hS => ?_)
        obtain ⟨hP1, hD1⟩ := hB
        rw [ht] at hP1
        obtain ⟨hPx, hDx⟩ := z_join hPx hDx hk1 hFc hP1 hD1
        have hP : va_P D vwCl (w_Mod cs mq u7 ++ w_Out cs o u5_0 ++ w_Xo cs x tq h a u5_1 ++ w_Text cs tq u5_2 ++ w_Hist cs h a u5_3 ++ linesW cs a 18 u5_4) H := z_perm_P z_lmb hPx
        have hD : va_D (fun q : Nat => s.heap.size ≤ q) (w_Mod cs mq u7 ++ w_Out cs o u5_0 ++ w_Xo cs x tq h a u5_1 ++ w_Text cs tq u5_2 ++ w_Hist cs h a u5_3 ++ linesW cs a 18 u5_4) := z_perm_D z_lmb hDx
        refine lv_istore (lv' := [(6, .int r7), (5, .int r5), (0, .ref b), (1, .ref (x 0)), (2, .ref (mq 0)), (3, .ref o), (4, .int x4)]) hx hb dL_law_195 hl (by decide) rfl (fun ls hl => ?_)
        refine lv_aload_n hx hb dL_law_197 rfl (lv_at hl 4 rfl) ?_
        have hPx := z_perm_P z_lm hP
        have hDx := z_perm_D z_lm hD
        have hPc := (z_app_P hPx).1
        have hDc := (z_app_D hDx).1
        refine z_calli (va_runV (As := []) (rest := []) ⟨hx, hb, hml, hown, hts⟩ (c_X4_thrown l D cs mq H.size u7 _ hw) (cwV 0 hts gL_law_X4_thrown rfl rfl rfl (by decide +kernel) ⟨Nat.le_of_ble_eq_true rfl, Nat.le_of_ble_eq_true rfl⟩) (PC_V hPc hDc hKK 0 4 rfl rfl) rfl rfl hl.1 rfl (lv_room (Nat.le_of_ble_eq_true rfl)) dL_law_198 ⟨by show _ ≤ 601024; omega, by show _ ≤ 7293034; omega⟩) (fun r8 hw => ?_)
        refine lv_iload hx hb dL_law_201 (lv_at hl 1 rfl) ?_
        refine lv_icmp_eq (tgt := 208) hx hb dL_law_203 (by decide) (fun c9 => ?_) (fun c9 => ?_)
        · have hw := hw.1 c9
          refine lv_iload hx hb dL_law_208 (lv_at hl 1 rfl) ?_
          refine lv_if_ne (tgt := 225) hx hb dL_law_210 (by decide) (fun c10 => ?_) (fun c10 => ?_)
          · have hw := hw.2 c10
            refine lv_goto (tgt := 1991) hx hb dL_law_225 (by decide) ?_
            refine lv_iinc (v := x4 + 4) (lv' := [(4, .int (x4 + 4)), (6, .int r7), (5, .int r5), (0, .ref b), (1, .ref (x 0)), (2, .ref (mq 0)), (3, .ref o)]) hx hb dL_law_1991 hl (k := 6) rfl rfl (by decide) rfl (fun ls hl => ?_)
            refine lv_goto (tgt := 23) hx hb dL_law_1994 (by decide) ?_
            refine W.widen (k := 1000 + 3 * (j + 1)) (n := 20000 + 18 * (j + 1)) (by omega) (by omega) ?_
            exact ih _ _ _ _ _ _ _ (j + 1) (by omega) hw _ _ hP hD hS ls (lv_sub hl [3, 4, 5, 6, 0] rfl)
          · have hw := hw.1 c10
            refine lv_aload_n hx hb dL_law_213 rfl (lv_at hl 5 rfl) ?_
            refine lv_iconst (v := (0 : Int32)) hx hb dL_law_214 (by decide) ?_
            refine va_lald hx hb hK hP 9 3 rfl rfl (show vp_in (0 : Int32) 1 by unfold vp_in; decide) dL_law_215 ?_
            refine lv_iload hx hb dL_law_216 (lv_at hl 0 rfl) ?_
            refine lv_i2l (v := r7.toInt64) hx hb dL_law_218 rfl ?_
            refine W.lcmp hx hb dL_law_219 ?_
            refine lv_if_eq (tgt := 225) hx hb dL_law_220 (by decide) (fun c11 => ?_) (fun c11 => ?_)
            · have hw := hw.1 c11
              refine lv_goto (tgt := 1991) hx hb dL_law_225 (by decide) ?_
              refine lv_iinc (v := x4 + 4) (lv' := [(4, .int (x4 + 4)), (6, .int r7), (5, .int r5), (0, .ref b), (1, .ref (x 0)), (2, .ref (mq 0)), (3, .ref o)]) hx hb dL_law_1991 hl (k := 6) rfl rfl (by decide) rfl (fun ls hl => ?_)
              refine lv_goto (tgt := 23) hx hb dL_law_1994 (by decide) ?_
              refine W.widen (k := 1000 + 3 * (j + 1)) (n := 20000 + 18 * (j + 1)) (by omega) (by omega) ?_
              exact ih _ _ _ _ _ _ _ (j + 1) (by omega) hw _ _ hP hD hS ls (lv_sub hl [3, 4, 5, 6, 0] rfl)
            · have hw := hw.2 c11
              refine lv_iconst (v := (0 : Int32)) hx hb dL_law_223 (by decide) ?_
              exact False.elim hw
        · have hw := hw.2 c9
          refine lv_iconst (v := (0 : Int32)) hx hb dL_law_206 (by decide) ?_
          exact False.elim hw
      have hw := hw.2 c3_0
      by_cases c3_1 : ((xs x4.toNatClampNeg) &&& (31 : Int32)) = 1
      · have hw := hw.1 c3_1
        refine lv_tableIn (off := 189) (tgt := 228) hx hb dL_law_39 (by rw [c3_1]; decide) (by rw [c3_1]; decide) (by rw [c3_1]; rfl) (by decide) ?_
        refine lv_aload_n hx hb dL_law_228 rfl (lv_at hl 1 rfl) ?_
        have hPx := z_perm_P z_lx hP
        have hDx := z_perm_D z_lx hD
        have hPc := (z_app_P hPx).1
        have hDc := (z_app_D hDx).1
        have hFc := z_free hDx hS hA
        refine va_calli (va_runV (As := []) (rest := []) ⟨hx, hb, hml, hown, hts⟩ (c_X3_clearText l D cs x tq h a H.size S tx hs Ls _ hw) (cwV 0 hts gL_law_X3_clearText rfl rfl rfl (by decide +kernel) ⟨Nat.le_of_ble_eq_true rfl, Nat.le_of_ble_eq_true rfl⟩) (PC_V hPc hDc hKK 0 3 rfl rfl) rfl rfl hl.1 rfl (lv_room (Nat.le_of_ble_eq_true rfl)) dL_law_229 ⟨by show _ ≤ 601024; omega, by show _ ≤ 7293034; omega⟩) hS (fun q _ h => hFc q h) hFc (fun r12 u12 t H locs ht hvm hw hB hz1 hk1 hS => ?_)
        obtain ⟨u12_0, u12_1, u12_2, u12_3⟩ := u12
        obtain ⟨hP1, hD1⟩ := hB
        rw [ht] at hP1
        obtain ⟨hPx, hDx⟩ := z_join hPx hDx hk1 hFc hP1 hD1
        have hP : va_P D vwCl (w_Mod cs mq M ++ w_Out cs o f ++ w_Xo cs x tq h a u12_0 ++ w_Text cs tq u12_1 ++ w_Hist cs h a u12_2 ++ linesW cs a 18 u12_3) H := z_perm_P z_lxb hPx
        have hD : va_D (fun q : Nat => s.heap.size ≤ q) (w_Mod cs mq M ++ w_Out cs o f ++ w_Xo cs x tq h a u12_0 ++ w_Text cs tq u12_1 ++ w_Hist cs h a u12_2 ++ linesW cs a 18 u12_3) := z_perm_D z_lxb hDx
        refine lv_aload_n hx hb dL_law_232 rfl (lv_at hl 2 rfl) ?_
        have hPx := z_perm_P z_lm hP
        have hDx := z_perm_D z_lm hD
        have hPc := (z_app_P hPx).1
        have hDc := (z_app_D hDx).1
        have hFc := z_free hDx hS hA
        refine va_calli (va_runV (As := []) (rest := [.int r12]) ⟨hx, hb, hml, hown, hts⟩ (c_X4_clearText l D cs mq H.size M _ hw) (cwV 0 hts gL_law_X4_clearText rfl rfl rfl (by decide +kernel) ⟨Nat.le_of_ble_eq_true rfl, Nat.le_of_ble_eq_true rfl⟩) (PC_V hPc hDc hKK 0 4 rfl rfl) rfl rfl hl.1 rfl (lv_room (Nat.le_of_ble_eq_true rfl)) dL_law_233 ⟨by show _ ≤ 601024; omega, by show _ ≤ 7293034; omega⟩) hS (fun q _ h => hFc q h) hFc (fun r13 u13 t H locs ht hvm hw hB hz1 hk1 hS => ?_)
        obtain ⟨hP1, hD1⟩ := hB
        rw [ht] at hP1
        obtain ⟨hPx, hDx⟩ := z_join hPx hDx hk1 hFc hP1 hD1
        have hP : va_P D vwCl (w_Mod cs mq u13 ++ w_Out cs o f ++ w_Xo cs x tq h a u12_0 ++ w_Text cs tq u12_1 ++ w_Hist cs h a u12_2 ++ linesW cs a 18 u12_3) H := z_perm_P z_lmb hPx
        have hD : va_D (fun q : Nat => s.heap.size ≤ q) (w_Mod cs mq u13 ++ w_Out cs o f ++ w_Xo cs x tq h a u12_0 ++ w_Text cs tq u12_1 ++ w_Hist cs h a u12_2 ++ linesW cs a 18 u12_3) := z_perm_D z_lmb hDx
        refine lv_icmp_eq (tgt := 1991) hx hb dL_law_236 (by decide) (fun c14 => ?_) (fun c14 => ?_)
        · have hw := hw.1 c14
          refine lv_iinc (v := x4 + 4) (lv' := [(4, .int (x4 + 4)), (0, .ref b), (1, .ref (x 0)), (2, .ref (mq 0)), (3, .ref o)]) hx hb dL_law_1991 hl (k := 4) rfl rfl (by decide) rfl (fun ls hl => ?_)
          refine lv_goto (tgt := 23) hx hb dL_law_1994 (by decide) ?_
          refine W.widen (k := 1000 + 3 * (j + 1)) (n := 20000 + 18 * (j + 1)) (by omega) (by omega) ?_
          exact ih _ _ _ _ _ _ _ (j + 1) (by omega) hw _ _ hP hD hS ls (lv_sub hl [1, 2, 3, 4, 0] rfl)
        · have hw := hw.2 c14
          refine lv_iconst (v := (0 : Int32)) hx hb dL_law_239 (by decide) ?_
          exact False.elim hw
      have hw := hw.2 c3_1
      by_cases c3_2 : ((xs x4.toNatClampNeg) &&& (31 : Int32)) = 2
      · have hw := hw.1 c3_2
        refine lv_tableIn (off := 202) (tgt := 241) hx hb dL_law_39 (by rw [c3_2]; decide) (by rw [c3_2]; decide) (by rw [c3_2]; rfl) (by decide) ?_
        refine lv_aload_n hx hb dL_law_241 rfl (lv_at hl 1 rfl) ?_
        have hPx := z_perm_P z_lx hP
        have hDx := z_perm_D z_lx hD
        have hPc := (z_app_P hPx).1
        have hDc := (z_app_D hDx).1
        refine z_calli (va_runV (As := []) (rest := []) ⟨hx, hb, hml, hown, hts⟩ (c_X3_errorPosition l D cs x tq h a H.size S tx hs Ls _ hw) (cwV 0 hts gL_law_X3_errorPosition rfl rfl rfl (by decide +kernel) ⟨Nat.le_of_ble_eq_true rfl, Nat.le_of_ble_eq_true rfl⟩) (PC_V hPc hDc hKK 0 3 rfl rfl) rfl rfl hl.1 rfl (lv_room (Nat.le_of_ble_eq_true rfl)) dL_law_242 ⟨by show _ ≤ 601024; omega, by show _ ≤ 7293034; omega⟩) (fun r15 hw => ?_)
        refine lv_aload_n hx hb dL_law_245 rfl (lv_at hl 2 rfl) ?_
        have hPx := z_perm_P z_lm hP
        have hDx := z_perm_D z_lm hD
        have hPc := (z_app_P hPx).1
        have hDc := (z_app_D hDx).1
        refine z_calli (va_runV (As := []) (rest := [.int r15]) ⟨hx, hb, hml, hown, hts⟩ (c_X4_errorPosition l D cs mq H.size M _ hw) (cwV 0 hts gL_law_X4_errorPosition rfl rfl rfl (by decide +kernel) ⟨Nat.le_of_ble_eq_true rfl, Nat.le_of_ble_eq_true rfl⟩) (PC_V hPc hDc hKK 0 4 rfl rfl) rfl rfl hl.1 rfl (lv_room (Nat.le_of_ble_eq_true rfl)) dL_law_246 ⟨by show _ ≤ 601024; omega, by show _ ≤ 7293034; omega⟩) (fun r16 hw => ?_)
        refine lv_icmp_eq (tgt := 1991) hx hb dL_law_249 (by decide) (fun c17 => ?_) (fun c17 => ?_)
        · have hw := hw.1 c17
          refine lv_iinc (v := x4 + 4) (lv' := [(4, .int (x4 + 4)), (0, .ref b), (1, .ref (x 0)), (2, .ref (mq 0)), (3, .ref o)]) hx hb dL_law_1991 hl (k := 4) rfl rfl (by decide) rfl (fun ls hl => ?_)
          refine lv_goto (tgt := 23) hx hb dL_law_1994 (by decide) ?_
          refine W.widen (k := 1000 + 3 * (j + 1)) (n := 20000 + 18 * (j + 1)) (by omega) (by omega) ?_
          exact ih _ _ _ _ _ _ _ (j + 1) (by omega) hw _ _ hP hD hS ls (lv_sub hl [1, 2, 3, 4, 0] rfl)
        · have hw := hw.2 c17
          refine lv_iconst (v := (0 : Int32)) hx hb dL_law_252 (by decide) ?_
          exact False.elim hw
      have hw := hw.2 c3_2
      by_cases c3_3 : ((xs x4.toNatClampNeg) &&& (31 : Int32)) = 3
      · have hw := hw.1 c3_3
        refine lv_tableIn (off := 215) (tgt := 254) hx hb dL_law_39 (by rw [c3_3]; decide) (by rw [c3_3]; decide) (by rw [c3_3]; rfl) (by decide) ?_
        refine lv_aload_n hx hb dL_law_254 rfl (lv_at hl 1 rfl) ?_
        refine lv_aload_n hx hb dL_law_255 rfl (lv_at hl 3 rfl) ?_
        have hPx := z_perm_P z_lo hP
        have hDx := z_perm_D z_lo hD
        have hPc := (z_app_P hPx).1
        have hDc := (z_app_D hDx).1
        have hFc := z_free hDx hS hA
        refine vx_calli (vx_runSX (As := [.ref (x 0), .ref o]) (rest := []) ⟨hx, hb, hml, hown, hts⟩ (c_L_load l hfl D cs o x tq h a H.size sa f S tx hs Ls _ hw) (vx_cwSW 2 hts gL_law_L_load rfl rfl rfl (by decide +kernel) ⟨Nat.le_of_ble_eq_true rfl, Nat.le_of_ble_eq_true rfl⟩) (PX_S hPc hDc hKK hTW hTZ hS hFc) rfl rfl hl.1 rfl (lv_room (Nat.le_of_ble_eq_true rfl)) dL_law_256 ⟨by show _ ≤ 601024; omega, by show _ ≤ 7293034; omega⟩) hS (fun q _ h => hFc q h) hFc (fun q _ h => hFc q h) ?_ (fun r18 u18 t H locs ht hvm hw hB hz1 hk1 hS => ?_)
        · intro E ce q9 u18 t H locs ht hvm hpx hB hz1 hk1 hS hq9 hce hcl
          exact hpx.elim
        obtain ⟨u18_0, u18_1, u18_2, u18_3, u18_4⟩ := u18
        obtain ⟨hP1, hD1⟩ := hB
        rw [ht] at hP1
        obtain ⟨hPx, hDx⟩ := z_join hPx hDx hk1 hFc hP1 hD1
        have hP : va_P D vwCl (w_Mod cs mq M ++ w_Out cs o u18_0 ++ w_Xo cs x tq h a u18_1 ++ w_Text cs tq u18_2 ++ w_Hist cs h a u18_3 ++ linesW cs a 18 u18_4) H := z_perm_P z_lob hPx
        have hD : va_D (fun q : Nat => s.heap.size ≤ q) (w_Mod cs mq M ++ w_Out cs o u18_0 ++ w_Xo cs x tq h a u18_1 ++ w_Text cs tq u18_2 ++ w_Hist cs h a u18_3 ++ linesW cs a 18 u18_4) := z_perm_D z_lob hDx
        refine lv_istore (lv' := [(5, .int r18), (0, .ref b), (1, .ref (x 0)), (2, .ref (mq 0)), (3, .ref o), (4, .int x4)]) hx hb dL_law_259 hl (by decide) rfl (fun ls hl => ?_)
        refine lv_aload_n hx hb dL_law_261 rfl (lv_at hl 3 rfl) ?_
        have hPx := z_perm_P z_lm hP
        have hDx := z_perm_D z_lm hD
        have hPc := (z_app_P hPx).1
        have hDc := (z_app_D hDx).1
        have hFc := z_free hDx hS hA
        refine va_calli (va_runV (As := []) (rest := []) ⟨hx, hb, hml, hown, hts⟩ (c_X4_load l D cs mq H.size M _ hw) (cwV 0 hts gL_law_X4_load rfl rfl rfl (by decide +kernel) ⟨Nat.le_of_ble_eq_true rfl, Nat.le_of_ble_eq_true rfl⟩) (PC_V hPc hDc hKK 0 4 rfl rfl) rfl rfl hl.1 rfl (lv_room (Nat.le_of_ble_eq_true rfl)) dL_law_262 ⟨by show _ ≤ 601024; omega, by show _ ≤ 7293034; omega⟩) hS (fun q _ h => hFc q h) hFc (fun r19 u19 t H locs ht hvm hw hB hz1 hk1 hS => ?_)
        obtain ⟨hP1, hD1⟩ := hB
        rw [ht] at hP1
        obtain ⟨hPx, hDx⟩ := z_join hPx hDx hk1 hFc hP1 hD1
        have hP : va_P D vwCl (w_Mod cs mq u19 ++ w_Out cs o u18_0 ++ w_Xo cs x tq h a u18_1 ++ w_Text cs tq u18_2 ++ w_Hist cs h a u18_3 ++ linesW cs a 18 u18_4) H := z_perm_P z_lmb hPx
        have hD : va_D (fun q : Nat => s.heap.size ≤ q) (w_Mod cs mq u19 ++ w_Out cs o u18_0 ++ w_Xo cs x tq h a u18_1 ++ w_Text cs tq u18_2 ++ w_Hist cs h a u18_3 ++ linesW cs a 18 u18_4) := z_perm_D z_lmb hDx
        refine lv_istore (lv' := [(6, .int r19), (5, .int r18), (0, .ref b), (1, .ref (x 0)), (2, .ref (mq 0)), (3, .ref o), (4, .int x4)]) hx hb dL_law_265 hl (by decide) rfl (fun ls hl => ?_)
        refine lv_aload_n hx hb dL_law_267 rfl (lv_at hl 4 rfl) ?_
        have hPx := z_perm_P z_lm hP
        have hDx := z_perm_D z_lm hD
        have hPc := (z_app_P hPx).1
        have hDc := (z_app_D hDx).1
        refine z_calli (va_runV (As := []) (rest := []) ⟨hx, hb, hml, hown, hts⟩ (c_X4_thrown l D cs mq H.size u19 _ hw) (cwV 0 hts gL_law_X4_thrown rfl rfl rfl (by decide +kernel) ⟨Nat.le_of_ble_eq_true rfl, Nat.le_of_ble_eq_true rfl⟩) (PC_V hPc hDc hKK 0 4 rfl rfl) rfl rfl hl.1 rfl (lv_room (Nat.le_of_ble_eq_true rfl)) dL_law_268 ⟨by show _ ≤ 601024; omega, by show _ ≤ 7293034; omega⟩) (fun r20 hw => ?_)
        refine lv_iload hx hb dL_law_271 (lv_at hl 1 rfl) ?_
        refine lv_icmp_eq (tgt := 278) hx hb dL_law_273 (by decide) (fun c21 => ?_) (fun c21 => ?_)
        · have hw := hw.1 c21
          refine lv_iload hx hb dL_law_278 (lv_at hl 1 rfl) ?_
          refine lv_if_ne (tgt := 295) hx hb dL_law_280 (by decide) (fun c22 => ?_) (fun c22 => ?_)
          · have hw := hw.2 c22
            refine lv_goto (tgt := 1991) hx hb dL_law_295 (by decide) ?_
            refine lv_iinc (v := x4 + 4) (lv' := [(4, .int (x4 + 4)), (6, .int r19), (5, .int r18), (0, .ref b), (1, .ref (x 0)), (2, .ref (mq 0)), (3, .ref o)]) hx hb dL_law_1991 hl (k := 6) rfl rfl (by decide) rfl (fun ls hl => ?_)
            refine lv_goto (tgt := 23) hx hb dL_law_1994 (by decide) ?_
            refine W.widen (k := 1000 + 3 * (j + 1)) (n := 20000 + 18 * (j + 1)) (by omega) (by omega) ?_
            exact ih _ _ _ _ _ _ _ (j + 1) (by omega) hw _ _ hP hD hS ls (lv_sub hl [3, 4, 5, 6, 0] rfl)
          · have hw := hw.1 c22
            refine lv_aload_n hx hb dL_law_283 rfl (lv_at hl 5 rfl) ?_
            refine lv_iconst (v := (0 : Int32)) hx hb dL_law_284 (by decide) ?_
            refine va_lald hx hb hK hP 9 3 rfl rfl (show vp_in (0 : Int32) 1 by unfold vp_in; decide) dL_law_285 ?_
            refine lv_iload hx hb dL_law_286 (lv_at hl 0 rfl) ?_
            refine lv_i2l (v := r19.toInt64) hx hb dL_law_288 rfl ?_
            refine W.lcmp hx hb dL_law_289 ?_
            refine lv_if_eq (tgt := 295) hx hb dL_law_290 (by decide) (fun c23 => ?_) (fun c23 => ?_)
            · have hw := hw.1 c23
              refine lv_goto (tgt := 1991) hx hb dL_law_295 (by decide) ?_
              refine lv_iinc (v := x4 + 4) (lv' := [(4, .int (x4 + 4)), (6, .int r19), (5, .int r18), (0, .ref b), (1, .ref (x 0)), (2, .ref (mq 0)), (3, .ref o)]) hx hb dL_law_1991 hl (k := 6) rfl rfl (by decide) rfl (fun ls hl => ?_)
              refine lv_goto (tgt := 23) hx hb dL_law_1994 (by decide) ?_
              refine W.widen (k := 1000 + 3 * (j + 1)) (n := 20000 + 18 * (j + 1)) (by omega) (by omega) ?_
              exact ih _ _ _ _ _ _ _ (j + 1) (by omega) hw _ _ hP hD hS ls (lv_sub hl [3, 4, 5, 6, 0] rfl)
            · have hw := hw.2 c23
              refine lv_iconst (v := (0 : Int32)) hx hb dL_law_293 (by decide) ?_
              exact False.elim hw
        · have hw := hw.2 c21
          refine lv_iconst (v := (0 : Int32)) hx hb dL_law_276 (by decide) ?_
          exact False.elim hw
      have hw := hw.2 c3_3
      by_cases c3_4 : ((xs x4.toNatClampNeg) &&& (31 : Int32)) = 4
      · have hw := hw.1 c3_4
        refine lv_tableIn (off := 259) (tgt := 298) hx hb dL_law_39 (by rw [c3_4]; decide) (by rw [c3_4]; decide) (by rw [c3_4]; rfl) (by decide) ?_
        refine lv_aload_n hx hb dL_law_298 rfl (lv_at hl 1 rfl) ?_
        refine lv_aload_n hx hb dL_law_299 rfl (lv_at hl 0 rfl) ?_
        refine lv_iload hx hb dL_law_300 (lv_at hl 4 rfl) ?_
        refine lv_iconst (v := (1 : Int32)) hx hb dL_law_302 (by decide) ?_
        refine lv_iadd hx hb dL_law_303 ?_
        obtain ⟨h24, hw⟩ := hw
        refine va_sld hx hb hX hbl hbA hS h24 dL_law_304 ?_
        refine lv_aload_n hx hb dL_law_305 rfl (lv_at hl 3 rfl) ?_
        have hPx := z_perm_P z_lo hP
        have hDx := z_perm_D z_lo hD
        have hPc := (z_app_P hPx).1
        have hDc := (z_app_D hDx).1
        have hFc := z_free hDx hS hA
        refine vx_calli (vx_runSX (As := [.ref (x 0), .int (xs (x4 + (1 : Int32)).toNatClampNeg), .ref o]) (rest := []) ⟨hx, hb, hml, hown, hts⟩ (c_L_about l hfl D cs o x tq h a H.size sa f S tx hs Ls (xs (x4 + (1 : Int32)).toNatClampNeg) _ hw) (vx_cwSW 3 hts gL_law_L_about rfl rfl rfl (by decide +kernel) ⟨Nat.le_of_ble_eq_true rfl, Nat.le_of_ble_eq_true rfl⟩) (PX_S hPc hDc hKK hTW hTZ hS hFc) rfl rfl hl.1 rfl (lv_room (Nat.le_of_ble_eq_true rfl)) dL_law_306 ⟨by show _ ≤ 601024; omega, by show _ ≤ 7293034; omega⟩) hS (fun q _ h => hFc q h) hFc (fun q _ h => hFc q h) ?_ (fun r25 u25 t H locs ht hvm hw hB hz1 hk1 hS => ?_)
        · intro E ce q9 u25 t H locs ht hvm hpx hB hz1 hk1 hS hq9 hce hcl
          exact hpx.elim
        obtain ⟨u25_0, u25_1, u25_2, u25_3, u25_4⟩ := u25
        obtain ⟨hP1, hD1⟩ := hB
        rw [ht] at hP1
        obtain ⟨hPx, hDx⟩ := z_join hPx hDx hk1 hFc hP1 hD1
        have hP : va_P D vwCl (w_Mod cs mq M ++ w_Out cs o u25_0 ++ w_Xo cs x tq h a u25_1 ++ w_Text cs tq u25_2 ++ w_Hist cs h a u25_3 ++ linesW cs a 18 u25_4) H := z_perm_P z_lob hPx
        have hD : va_D (fun q : Nat => s.heap.size ≤ q) (w_Mod cs mq M ++ w_Out cs o u25_0 ++ w_Xo cs x tq h a u25_1 ++ w_Text cs tq u25_2 ++ w_Hist cs h a u25_3 ++ linesW cs a 18 u25_4) := z_perm_D z_lob hDx
        refine lv_istore (lv' := [(5, .int r25), (0, .ref b), (1, .ref (x 0)), (2, .ref (mq 0)), (3, .ref o), (4, .int x4)]) hx hb dL_law_309 hl (by decide) rfl (fun ls hl => ?_)
        refine lv_aload_n hx hb dL_law_311 rfl (lv_at hl 3 rfl) ?_
        refine lv_aload_n hx hb dL_law_312 rfl (lv_at hl 1 rfl) ?_
        refine lv_iload hx hb dL_law_313 (lv_at hl 5 rfl) ?_
        refine lv_iconst (v := (1 : Int32)) hx hb dL_law_315 (by decide) ?_
        refine lv_iadd hx hb dL_law_316 ?_
        obtain ⟨h26, hw⟩ := hw
        refine va_sld hx hb hX hbl hbA hS h26 dL_law_317 ?_
        have hPx := z_perm_P z_lm hP
        have hDx := z_perm_D z_lm hD
        have hPc := (z_app_P hPx).1
        have hDc := (z_app_D hDx).1
        have hFc := z_free hDx hS hA
        refine va_calli (va_runV (As := [.int (xs (x4 + (1 : Int32)).toNatClampNeg)]) (rest := []) ⟨hx, hb, hml, hown, hts⟩ (c_X4_about l D cs mq H.size M (xs (x4 + (1 : Int32)).toNatClampNeg) _ hw) (cwV 1 hts gL_law_X4_about rfl rfl rfl (by decide +kernel) ⟨Nat.le_of_ble_eq_true rfl, Nat.le_of_ble_eq_true rfl⟩) (PC_V hPc hDc hKK 0 4 rfl rfl) rfl rfl hl.1 rfl (lv_room (Nat.le_of_ble_eq_true rfl)) dL_law_318 ⟨by show _ ≤ 601024; omega, by show _ ≤ 7293034; omega⟩) hS (fun q _ h => hFc q h) hFc (fun r27 u27 t H locs ht hvm hw hB hz1 hk1 hS => ?_)
        obtain ⟨hP1, hD1⟩ := hB
        rw [ht] at hP1
        obtain ⟨hPx, hDx⟩ := z_join hPx hDx hk1 hFc hP1 hD1
        have hP : va_P D vwCl (w_Mod cs mq u27 ++ w_Out cs o u25_0 ++ w_Xo cs x tq h a u25_1 ++ w_Text cs tq u25_2 ++ w_Hist cs h a u25_3 ++ linesW cs a 18 u25_4) H := z_perm_P z_lmb hPx
        have hD : va_D (fun q : Nat => s.heap.size ≤ q) (w_Mod cs mq u27 ++ w_Out cs o u25_0 ++ w_Xo cs x tq h a u25_1 ++ w_Text cs tq u25_2 ++ w_Hist cs h a u25_3 ++ linesW cs a 18 u25_4) := z_perm_D z_lmb hDx
        refine lv_istore (lv' := [(6, .int r27), (5, .int r25), (0, .ref b), (1, .ref (x 0)), (2, .ref (mq 0)), (3, .ref o), (4, .int x4)]) hx hb dL_law_321 hl (by decide) rfl (fun ls hl => ?_)
        refine lv_aload_n hx hb dL_law_323 rfl (lv_at hl 4 rfl) ?_
        have hPx := z_perm_P z_lm hP
        have hDx := z_perm_D z_lm hD
        have hPc := (z_app_P hPx).1
        have hDc := (z_app_D hDx).1
        refine z_calli (va_runV (As := []) (rest := []) ⟨hx, hb, hml, hown, hts⟩ (c_X4_thrown l D cs mq H.size u27 _ hw) (cwV 0 hts gL_law_X4_thrown rfl rfl rfl (by decide +kernel) ⟨Nat.le_of_ble_eq_true rfl, Nat.le_of_ble_eq_true rfl⟩) (PC_V hPc hDc hKK 0 4 rfl rfl) rfl rfl hl.1 rfl (lv_room (Nat.le_of_ble_eq_true rfl)) dL_law_324 ⟨by show _ ≤ 601024; omega, by show _ ≤ 7293034; omega⟩) (fun r28 hw => ?_)
        refine lv_iload hx hb dL_law_327 (lv_at hl 1 rfl) ?_
        refine lv_icmp_eq (tgt := 334) hx hb dL_law_329 (by decide) (fun c29 => ?_) (fun c29 => ?_)
        · have hw := hw.1 c29
          refine lv_iload hx hb dL_law_334 (lv_at hl 1 rfl) ?_
          refine lv_if_ne (tgt := 351) hx hb dL_law_336 (by decide) (fun c30 => ?_) (fun c30 => ?_)
          · have hw := hw.2 c30
            refine lv_goto (tgt := 1991) hx hb dL_law_351 (by decide) ?_
            refine lv_iinc (v := x4 + 4) (lv' := [(4, .int (x4 + 4)), (6, .int r27), (5, .int r25), (0, .ref b), (1, .ref (x 0)), (2, .ref (mq 0)), (3, .ref o)]) hx hb dL_law_1991 hl (k := 6) rfl rfl (by decide) rfl (fun ls hl => ?_)
            refine lv_goto (tgt := 23) hx hb dL_law_1994 (by decide) ?_
            refine W.widen (k := 1000 + 3 * (j + 1)) (n := 20000 + 18 * (j + 1)) (by omega) (by omega) ?_
            exact ih _ _ _ _ _ _ _ (j + 1) (by omega) hw _ _ hP hD hS ls (lv_sub hl [3, 4, 5, 6, 0] rfl)
          · have hw := hw.1 c30
            refine lv_aload_n hx hb dL_law_339 rfl (lv_at hl 5 rfl) ?_
            refine lv_iconst (v := (0 : Int32)) hx hb dL_law_340 (by decide) ?_
            refine va_lald hx hb hK hP 9 3 rfl rfl (show vp_in (0 : Int32) 1 by unfold vp_in; decide) dL_law_341 ?_
            refine lv_iload hx hb dL_law_342 (lv_at hl 0 rfl) ?_
            refine lv_i2l (v := r27.toInt64) hx hb dL_law_344 rfl ?_
            refine W.lcmp hx hb dL_law_345 ?_
            refine lv_if_eq (tgt := 351) hx hb dL_law_346 (by decide) (fun c31 => ?_) (fun c31 => ?_)
            · have hw := hw.1 c31
              refine lv_goto (tgt := 1991) hx hb dL_law_351 (by decide) ?_
              refine lv_iinc (v := x4 + 4) (lv' := [(4, .int (x4 + 4)), (6, .int r27), (5, .int r25), (0, .ref b), (1, .ref (x 0)), (2, .ref (mq 0)), (3, .ref o)]) hx hb dL_law_1991 hl (k := 6) rfl rfl (by decide) rfl (fun ls hl => ?_)
              refine lv_goto (tgt := 23) hx hb dL_law_1994 (by decide) ?_
              refine W.widen (k := 1000 + 3 * (j + 1)) (n := 20000 + 18 * (j + 1)) (by omega) (by omega) ?_
              exact ih _ _ _ _ _ _ _ (j + 1) (by omega) hw _ _ hP hD hS ls (lv_sub hl [3, 4, 5, 6, 0] rfl)
            · have hw := hw.2 c31
              refine lv_iconst (v := (0 : Int32)) hx hb dL_law_349 (by decide) ?_
              exact False.elim hw
        · have hw := hw.2 c29
          refine lv_iconst (v := (0 : Int32)) hx hb dL_law_332 (by decide) ?_
          exact False.elim hw
      have hw := hw.2 c3_4
      by_cases c3_5 : ((xs x4.toNatClampNeg) &&& (31 : Int32)) = 5
      · have hw := hw.1 c3_5
        refine lv_tableIn (off := 315) (tgt := 354) hx hb dL_law_39 (by rw [c3_5]; decide) (by rw [c3_5]; decide) (by rw [c3_5]; rfl) (by decide) ?_
        refine lv_aload_n hx hb dL_law_354 rfl (lv_at hl 1 rfl) ?_
        refine lv_aload_n hx hb dL_law_355 rfl (lv_at hl 0 rfl) ?_
        refine lv_iload hx hb dL_law_356 (lv_at hl 4 rfl) ?_
        refine lv_iconst (v := (1 : Int32)) hx hb dL_law_358 (by decide) ?_
        refine lv_iadd hx hb dL_law_359 ?_
        obtain ⟨h32, hw⟩ := hw
        refine va_sld hx hb hX hbl hbA hS h32 dL_law_360 ?_
        refine lv_aload_n hx hb dL_law_361 rfl (lv_at hl 3 rfl) ?_
        have hPx := z_perm_P z_lo hP
        have hDx := z_perm_D z_lo hD
        have hPc := (z_app_P hPx).1
        have hDc := (z_app_D hDx).1
        have hFc := z_free hDx hS hA
        refine vx_calli (vx_runSX (As := [.ref (x 0), .int (xs (x4 + (1 : Int32)).toNatClampNeg), .ref o]) (rest := []) ⟨hx, hb, hml, hown, hts⟩ (c_L_shown l hfl D cs o x tq h a H.size sa f S tx hs Ls (xs (x4 + (1 : Int32)).toNatClampNeg) _ hw) (vx_cwSW 3 hts gL_law_L_shown rfl rfl rfl (by decide +kernel) ⟨Nat.le_of_ble_eq_true rfl, Nat.le_of_ble_eq_true rfl⟩) (PX_S hPc hDc hKK hTW hTZ hS hFc) rfl rfl hl.1 rfl (lv_room (Nat.le_of_ble_eq_true rfl)) dL_law_362 ⟨by show _ ≤ 601024; omega, by show _ ≤ 7293034; omega⟩) hS (fun q _ h => hFc q h) hFc (fun q _ h => hFc q h) ?_ (fun r33 u33 t H locs ht hvm hw hB hz1 hk1 hS => ?_)
        · intro E ce q9 u33 t H locs ht hvm hpx hB hz1 hk1 hS hq9 hce hcl
          exact hpx.elim
        obtain ⟨u33_0, u33_1, u33_2, u33_3, u33_4⟩ := u33
        obtain ⟨hP1, hD1⟩ := hB
        rw [ht] at hP1
        obtain ⟨hPx, hDx⟩ := z_join hPx hDx hk1 hFc hP1 hD1
        have hP : va_P D vwCl (w_Mod cs mq M ++ w_Out cs o u33_0 ++ w_Xo cs x tq h a u33_1 ++ w_Text cs tq u33_2 ++ w_Hist cs h a u33_3 ++ linesW cs a 18 u33_4) H := z_perm_P z_lob hPx
        have hD : va_D (fun q : Nat => s.heap.size ≤ q) (w_Mod cs mq M ++ w_Out cs o u33_0 ++ w_Xo cs x tq h a u33_1 ++ w_Text cs tq u33_2 ++ w_Hist cs h a u33_3 ++ linesW cs a 18 u33_4) := z_perm_D z_lob hDx
        refine lv_istore (lv' := [(5, .int r33), (0, .ref b), (1, .ref (x 0)), (2, .ref (mq 0)), (3, .ref o), (4, .int x4)]) hx hb dL_law_365 hl (by decide) rfl (fun ls hl => ?_)
        refine lv_aload_n hx hb dL_law_367 rfl (lv_at hl 3 rfl) ?_
        refine lv_aload_n hx hb dL_law_368 rfl (lv_at hl 1 rfl) ?_
        refine lv_iload hx hb dL_law_369 (lv_at hl 5 rfl) ?_
        refine lv_iconst (v := (1 : Int32)) hx hb dL_law_371 (by decide) ?_
        refine lv_iadd hx hb dL_law_372 ?_
        obtain ⟨h34, hw⟩ := hw
        refine va_sld hx hb hX hbl hbA hS h34 dL_law_373 ?_
        have hPx := z_perm_P z_lm hP
        have hDx := z_perm_D z_lm hD
        have hPc := (z_app_P hPx).1
        have hDc := (z_app_D hDx).1
        have hFc := z_free hDx hS hA
        refine va_calli (va_runV (As := [.int (xs (x4 + (1 : Int32)).toNatClampNeg)]) (rest := []) ⟨hx, hb, hml, hown, hts⟩ (c_X4_shown l D cs mq H.size M (xs (x4 + (1 : Int32)).toNatClampNeg) _ hw) (cwV 1 hts gL_law_X4_shown rfl rfl rfl (by decide +kernel) ⟨Nat.le_of_ble_eq_true rfl, Nat.le_of_ble_eq_true rfl⟩) (PC_V hPc hDc hKK 0 4 rfl rfl) rfl rfl hl.1 rfl (lv_room (Nat.le_of_ble_eq_true rfl)) dL_law_374 ⟨by show _ ≤ 601024; omega, by show _ ≤ 7293034; omega⟩) hS (fun q _ h => hFc q h) hFc (fun r35 u35 t H locs ht hvm hw hB hz1 hk1 hS => ?_)
        obtain ⟨hP1, hD1⟩ := hB
        rw [ht] at hP1
        obtain ⟨hPx, hDx⟩ := z_join hPx hDx hk1 hFc hP1 hD1
        have hP : va_P D vwCl (w_Mod cs mq u35 ++ w_Out cs o u33_0 ++ w_Xo cs x tq h a u33_1 ++ w_Text cs tq u33_2 ++ w_Hist cs h a u33_3 ++ linesW cs a 18 u33_4) H := z_perm_P z_lmb hPx
        have hD : va_D (fun q : Nat => s.heap.size ≤ q) (w_Mod cs mq u35 ++ w_Out cs o u33_0 ++ w_Xo cs x tq h a u33_1 ++ w_Text cs tq u33_2 ++ w_Hist cs h a u33_3 ++ linesW cs a 18 u33_4) := z_perm_D z_lmb hDx
        refine lv_istore (lv' := [(6, .int r35), (5, .int r33), (0, .ref b), (1, .ref (x 0)), (2, .ref (mq 0)), (3, .ref o), (4, .int x4)]) hx hb dL_law_377 hl (by decide) rfl (fun ls hl => ?_)
        refine lv_aload_n hx hb dL_law_379 rfl (lv_at hl 4 rfl) ?_
        have hPx := z_perm_P z_lm hP
        have hDx := z_perm_D z_lm hD
        have hPc := (z_app_P hPx).1
        have hDc := (z_app_D hDx).1
        refine z_calli (va_runV (As := []) (rest := []) ⟨hx, hb, hml, hown, hts⟩ (c_X4_thrown l D cs mq H.size u35 _ hw) (cwV 0 hts gL_law_X4_thrown rfl rfl rfl (by decide +kernel) ⟨Nat.le_of_ble_eq_true rfl, Nat.le_of_ble_eq_true rfl⟩) (PC_V hPc hDc hKK 0 4 rfl rfl) rfl rfl hl.1 rfl (lv_room (Nat.le_of_ble_eq_true rfl)) dL_law_380 ⟨by show _ ≤ 601024; omega, by show _ ≤ 7293034; omega⟩) (fun r36 hw => ?_)
        refine lv_iload hx hb dL_law_383 (lv_at hl 1 rfl) ?_
        refine lv_icmp_eq (tgt := 390) hx hb dL_law_385 (by decide) (fun c37 => ?_) (fun c37 => ?_)
        · have hw := hw.1 c37
          refine lv_iload hx hb dL_law_390 (lv_at hl 1 rfl) ?_
          refine lv_if_ne (tgt := 407) hx hb dL_law_392 (by decide) (fun c38 => ?_) (fun c38 => ?_)
          · have hw := hw.2 c38
            refine lv_goto (tgt := 1991) hx hb dL_law_407 (by decide) ?_
            refine lv_iinc (v := x4 + 4) (lv' := [(4, .int (x4 + 4)), (6, .int r35), (5, .int r33), (0, .ref b), (1, .ref (x 0)), (2, .ref (mq 0)), (3, .ref o)]) hx hb dL_law_1991 hl (k := 6) rfl rfl (by decide) rfl (fun ls hl => ?_)
            refine lv_goto (tgt := 23) hx hb dL_law_1994 (by decide) ?_
            refine W.widen (k := 1000 + 3 * (j + 1)) (n := 20000 + 18 * (j + 1)) (by omega) (by omega) ?_
            exact ih _ _ _ _ _ _ _ (j + 1) (by omega) hw _ _ hP hD hS ls (lv_sub hl [3, 4, 5, 6, 0] rfl)
          · have hw := hw.1 c38
            refine lv_aload_n hx hb dL_law_395 rfl (lv_at hl 5 rfl) ?_
            refine lv_iconst (v := (0 : Int32)) hx hb dL_law_396 (by decide) ?_
            refine va_lald hx hb hK hP 9 3 rfl rfl (show vp_in (0 : Int32) 1 by unfold vp_in; decide) dL_law_397 ?_
            refine lv_iload hx hb dL_law_398 (lv_at hl 0 rfl) ?_
            refine lv_i2l (v := r35.toInt64) hx hb dL_law_400 rfl ?_
            refine W.lcmp hx hb dL_law_401 ?_
            refine lv_if_eq (tgt := 407) hx hb dL_law_402 (by decide) (fun c39 => ?_) (fun c39 => ?_)
            · have hw := hw.1 c39
              refine lv_goto (tgt := 1991) hx hb dL_law_407 (by decide) ?_
              refine lv_iinc (v := x4 + 4) (lv' := [(4, .int (x4 + 4)), (6, .int r35), (5, .int r33), (0, .ref b), (1, .ref (x 0)), (2, .ref (mq 0)), (3, .ref o)]) hx hb dL_law_1991 hl (k := 6) rfl rfl (by decide) rfl (fun ls hl => ?_)
              refine lv_goto (tgt := 23) hx hb dL_law_1994 (by decide) ?_
              refine W.widen (k := 1000 + 3 * (j + 1)) (n := 20000 + 18 * (j + 1)) (by omega) (by omega) ?_
              exact ih _ _ _ _ _ _ _ (j + 1) (by omega) hw _ _ hP hD hS ls (lv_sub hl [3, 4, 5, 6, 0] rfl)
            · have hw := hw.2 c39
              refine lv_iconst (v := (0 : Int32)) hx hb dL_law_405 (by decide) ?_
              exact False.elim hw
        · have hw := hw.2 c37
          refine lv_iconst (v := (0 : Int32)) hx hb dL_law_388 (by decide) ?_
          exact False.elim hw
      have hw := hw.2 c3_5
      by_cases c3_6 : ((xs x4.toNatClampNeg) &&& (31 : Int32)) = 6
      · have hw := hw.1 c3_6
        refine lv_tableIn (off := 371) (tgt := 410) hx hb dL_law_39 (by rw [c3_6]; decide) (by rw [c3_6]; decide) (by rw [c3_6]; rfl) (by decide) ?_
        refine lv_aload_n hx hb dL_law_410 rfl (lv_at hl 1 rfl) ?_
        refine lv_aload_n hx hb dL_law_411 rfl (lv_at hl 0 rfl) ?_
        refine lv_iload hx hb dL_law_412 (lv_at hl 4 rfl) ?_
        refine lv_iconst (v := (1 : Int32)) hx hb dL_law_414 (by decide) ?_
        refine lv_iadd hx hb dL_law_415 ?_
        obtain ⟨h40, hw⟩ := hw
        refine va_sld hx hb hX hbl hbA hS h40 dL_law_416 ?_
        refine lv_aload_n hx hb dL_law_417 rfl (lv_at hl 3 rfl) ?_
        have hPx := z_perm_P z_lo hP
        have hDx := z_perm_D z_lo hD
        have hPc := (z_app_P hPx).1
        have hDc := (z_app_D hDx).1
        have hFc := z_free hDx hS hA
        refine vx_calli (vx_runSX (As := [.ref (x 0), .int (xs (x4 + (1 : Int32)).toNatClampNeg), .ref o]) (rest := []) ⟨hx, hb, hml, hown, hts⟩ (c_L_worth l hfl D cs o x tq h a H.size sa f S tx hs Ls (xs (x4 + (1 : Int32)).toNatClampNeg) _ hw) (vx_cwSW 3 hts gL_law_L_worth rfl rfl rfl (by decide +kernel) ⟨Nat.le_of_ble_eq_true rfl, Nat.le_of_ble_eq_true rfl⟩) (PX_S hPc hDc hKK hTW hTZ hS hFc) rfl rfl hl.1 rfl (lv_room (Nat.le_of_ble_eq_true rfl)) dL_law_418 ⟨by show _ ≤ 601024; omega, by show _ ≤ 7293034; omega⟩) hS (fun q _ h => hFc q h) hFc (fun q _ h => hFc q h) ?_ (fun r41 u41 t H locs ht hvm hw hB hz1 hk1 hS => ?_)
        · intro E ce q9 u41 t H locs ht hvm hpx hB hz1 hk1 hS hq9 hce hcl
          exact hpx.elim
        obtain ⟨u41_0, u41_1, u41_2, u41_3, u41_4⟩ := u41
        obtain ⟨hP1, hD1⟩ := hB
        rw [ht] at hP1
        obtain ⟨hPx, hDx⟩ := z_join hPx hDx hk1 hFc hP1 hD1
        have hP : va_P D vwCl (w_Mod cs mq M ++ w_Out cs o u41_0 ++ w_Xo cs x tq h a u41_1 ++ w_Text cs tq u41_2 ++ w_Hist cs h a u41_3 ++ linesW cs a 18 u41_4) H := z_perm_P z_lob hPx
        have hD : va_D (fun q : Nat => s.heap.size ≤ q) (w_Mod cs mq M ++ w_Out cs o u41_0 ++ w_Xo cs x tq h a u41_1 ++ w_Text cs tq u41_2 ++ w_Hist cs h a u41_3 ++ linesW cs a 18 u41_4) := z_perm_D z_lob hDx
        refine lv_istore (lv' := [(5, .int r41), (0, .ref b), (1, .ref (x 0)), (2, .ref (mq 0)), (3, .ref o), (4, .int x4)]) hx hb dL_law_421 hl (by decide) rfl (fun ls hl => ?_)
        refine lv_aload_n hx hb dL_law_423 rfl (lv_at hl 3 rfl) ?_
        refine lv_aload_n hx hb dL_law_424 rfl (lv_at hl 1 rfl) ?_
        refine lv_iload hx hb dL_law_425 (lv_at hl 5 rfl) ?_
        refine lv_iconst (v := (1 : Int32)) hx hb dL_law_427 (by decide) ?_
        refine lv_iadd hx hb dL_law_428 ?_
        obtain ⟨h42, hw⟩ := hw
        refine va_sld hx hb hX hbl hbA hS h42 dL_law_429 ?_
        have hPx := z_perm_P z_lm hP
        have hDx := z_perm_D z_lm hD
        have hPc := (z_app_P hPx).1
        have hDc := (z_app_D hDx).1
        have hFc := z_free hDx hS hA
        refine va_calll (va_runV (As := [.int (xs (x4 + (1 : Int32)).toNatClampNeg)]) (rest := []) ⟨hx, hb, hml, hown, hts⟩ (c_X4_worth l D cs mq H.size M (xs (x4 + (1 : Int32)).toNatClampNeg) _ hw) (cwV 1 hts gL_law_X4_worth rfl rfl rfl (by decide +kernel) ⟨Nat.le_of_ble_eq_true rfl, Nat.le_of_ble_eq_true rfl⟩) (PC_V hPc hDc hKK 0 4 rfl rfl) rfl rfl hl.1 rfl (lv_room (Nat.le_of_ble_eq_true rfl)) dL_law_430 ⟨by show _ ≤ 601024; omega, by show _ ≤ 7293034; omega⟩) hS (fun q _ h => hFc q h) hFc (fun r43 u43 t H locs ht hvm hw hB hz1 hk1 hS => ?_)
        obtain ⟨hP1, hD1⟩ := hB
        rw [ht] at hP1
        obtain ⟨hPx, hDx⟩ := z_join hPx hDx hk1 hFc hP1 hD1
        have hP : va_P D vwCl (w_Mod cs mq u43 ++ w_Out cs o u41_0 ++ w_Xo cs x tq h a u41_1 ++ w_Text cs tq u41_2 ++ w_Hist cs h a u41_3 ++ linesW cs a 18 u41_4) H := z_perm_P z_lmb hPx
        have hD : va_D (fun q : Nat => s.heap.size ≤ q) (w_Mod cs mq u43 ++ w_Out cs o u41_0 ++ w_Xo cs x tq h a u41_1 ++ w_Text cs tq u41_2 ++ w_Hist cs h a u41_3 ++ linesW cs a 18 u41_4) := z_perm_D z_lmb hDx
        refine lv_lstore (lv' := [(6, .long r43), (5, .int r41), (0, .ref b), (1, .ref (x 0)), (2, .ref (mq 0)), (3, .ref o), (4, .int x4)]) hx hb dL_law_433 hl (by decide) rfl (fun ls hl => ?_)
        refine lv_aload_n hx hb dL_law_435 rfl (lv_at hl 4 rfl) ?_
        have hPx := z_perm_P z_lm hP
        have hDx := z_perm_D z_lm hD
        have hPc := (z_app_P hPx).1
        have hDc := (z_app_D hDx).1
        refine z_calli (va_runV (As := []) (rest := []) ⟨hx, hb, hml, hown, hts⟩ (c_X4_thrown l D cs mq H.size u43 _ hw) (cwV 0 hts gL_law_X4_thrown rfl rfl rfl (by decide +kernel) ⟨Nat.le_of_ble_eq_true rfl, Nat.le_of_ble_eq_true rfl⟩) (PC_V hPc hDc hKK 0 4 rfl rfl) rfl rfl hl.1 rfl (lv_room (Nat.le_of_ble_eq_true rfl)) dL_law_436 ⟨by show _ ≤ 601024; omega, by show _ ≤ 7293034; omega⟩) (fun r44 hw => ?_)
        refine lv_iload hx hb dL_law_439 (lv_at hl 1 rfl) ?_
        refine lv_icmp_eq (tgt := 446) hx hb dL_law_441 (by decide) (fun c45 => ?_) (fun c45 => ?_)
        · have hw := hw.1 c45
          refine lv_iload hx hb dL_law_446 (lv_at hl 1 rfl) ?_
          refine lv_if_ne (tgt := 462) hx hb dL_law_448 (by decide) (fun c46 => ?_) (fun c46 => ?_)
          · have hw := hw.2 c46
            refine lv_goto (tgt := 1991) hx hb dL_law_462 (by decide) ?_
            refine lv_iinc (v := x4 + 4) (lv' := [(4, .int (x4 + 4)), (6, .long r43), (5, .int r41), (0, .ref b), (1, .ref (x 0)), (2, .ref (mq 0)), (3, .ref o)]) hx hb dL_law_1991 hl (k := 6) rfl rfl (by decide) rfl (fun ls hl => ?_)
            refine lv_goto (tgt := 23) hx hb dL_law_1994 (by decide) ?_
            refine W.widen (k := 1000 + 3 * (j + 1)) (n := 20000 + 18 * (j + 1)) (by omega) (by omega) ?_
            exact ih _ _ _ _ _ _ _ (j + 1) (by omega) hw _ _ hP hD hS ls (lv_sub hl [3, 4, 5, 6, 0] rfl)
          · have hw := hw.1 c46
            refine lv_aload_n hx hb dL_law_451 rfl (lv_at hl 5 rfl) ?_
            refine lv_iconst (v := (0 : Int32)) hx hb dL_law_452 (by decide) ?_
            refine va_lald hx hb hK hP 9 3 rfl rfl (show vp_in (0 : Int32) 1 by unfold vp_in; decide) dL_law_453 ?_
            refine lv_lload hx hb dL_law_454 (lv_at hl 0 rfl) ?_
            refine W.lcmp hx hb dL_law_456 ?_
            refine lv_if_eq (tgt := 462) hx hb dL_law_457 (by decide) (fun c47 => ?_) (fun c47 => ?_)
            · have hw := hw.1 c47
              refine lv_goto (tgt := 1991) hx hb dL_law_462 (by decide) ?_
              refine lv_iinc (v := x4 + 4) (lv' := [(4, .int (x4 + 4)), (6, .long r43), (5, .int r41), (0, .ref b), (1, .ref (x 0)), (2, .ref (mq 0)), (3, .ref o)]) hx hb dL_law_1991 hl (k := 6) rfl rfl (by decide) rfl (fun ls hl => ?_)
              refine lv_goto (tgt := 23) hx hb dL_law_1994 (by decide) ?_
              refine W.widen (k := 1000 + 3 * (j + 1)) (n := 20000 + 18 * (j + 1)) (by omega) (by omega) ?_
              exact ih _ _ _ _ _ _ _ (j + 1) (by omega) hw _ _ hP hD hS ls (lv_sub hl [3, 4, 5, 6, 0] rfl)
            · have hw := hw.2 c47
              refine lv_iconst (v := (0 : Int32)) hx hb dL_law_460 (by decide) ?_
              exact False.elim hw
        · have hw := hw.2 c45
          refine lv_iconst (v := (0 : Int32)) hx hb dL_law_444 (by decide) ?_
          exact False.elim hw
      have hw := hw.2 c3_6
      by_cases c3_7 : ((xs x4.toNatClampNeg) &&& (31 : Int32)) = 7
      · have hw := hw.1 c3_7
        refine lv_tableIn (off := 426) (tgt := 465) hx hb dL_law_39 (by rw [c3_7]; decide) (by rw [c3_7]; decide) (by rw [c3_7]; rfl) (by decide) ?_
        refine lv_aload_n hx hb dL_law_465 rfl (lv_at hl 1 rfl) ?_
        refine lv_aload_n hx hb dL_law_466 rfl (lv_at hl 0 rfl) ?_
        refine lv_iload hx hb dL_law_467 (lv_at hl 4 rfl) ?_
        refine lv_iconst (v := (1 : Int32)) hx hb dL_law_469 (by decide) ?_
        refine lv_iadd hx hb dL_law_470 ?_
        obtain ⟨h48, hw⟩ := hw
        refine va_sld hx hb hX hbl hbA hS h48 dL_law_471 ?_
        refine lv_aload_n hx hb dL_law_472 rfl (lv_at hl 0 rfl) ?_
        refine lv_iload hx hb dL_law_473 (lv_at hl 4 rfl) ?_
        refine lv_iconst (v := (2 : Int32)) hx hb dL_law_475 (by decide) ?_
        refine lv_iadd hx hb dL_law_476 ?_
        obtain ⟨h49, hw⟩ := hw
        refine va_sld hx hb hX hbl hbA hS h49 dL_law_477 ?_
        refine lv_aload_n hx hb dL_law_478 rfl (lv_at hl 3 rfl) ?_
        have hPx := z_perm_P z_lo hP
        have hDx := z_perm_D z_lo hD
        have hPc := (z_app_P hPx).1
        have hDc := (z_app_D hDx).1
        have hFc := z_free hDx hS hA
        refine vx_calli (vx_runSX (As := [.ref (x 0), .int (xs (x4 + (1 : Int32)).toNatClampNeg), .int (xs (x4 + (2 : Int32)).toNatClampNeg), .ref o]) (rest := []) ⟨hx, hb, hml, hown, hts⟩ (c_L_counter l hfl D cs o x tq h a H.size sa f S tx hs Ls (xs (x4 + (1 : Int32)).toNatClampNeg) (xs (x4 + (2 : Int32)).toNatClampNeg) _ hw) (vx_cwSW 4 hts gL_law_L_counter rfl rfl rfl (by decide +kernel) ⟨Nat.le_of_ble_eq_true rfl, Nat.le_of_ble_eq_true rfl⟩) (PX_S hPc hDc hKK hTW hTZ hS hFc) rfl rfl hl.1 rfl (lv_room (Nat.le_of_ble_eq_true rfl)) dL_law_479 ⟨by show _ ≤ 601024; omega, by show _ ≤ 7293034; omega⟩) hS (fun q _ h => hFc q h) hFc (fun q _ h => hFc q h) ?_ (fun r50 u50 t H locs ht hvm hw hB hz1 hk1 hS => ?_)
        · intro E ce q9 u50 t H locs ht hvm hpx hB hz1 hk1 hS hq9 hce hcl
          exact hpx.elim
        obtain ⟨u50_0, u50_1, u50_2, u50_3, u50_4⟩ := u50
        obtain ⟨hP1, hD1⟩ := hB
        rw [ht] at hP1
        obtain ⟨hPx, hDx⟩ := z_join hPx hDx hk1 hFc hP1 hD1
        have hP : va_P D vwCl (w_Mod cs mq M ++ w_Out cs o u50_0 ++ w_Xo cs x tq h a u50_1 ++ w_Text cs tq u50_2 ++ w_Hist cs h a u50_3 ++ linesW cs a 18 u50_4) H := z_perm_P z_lob hPx
        have hD : va_D (fun q : Nat => s.heap.size ≤ q) (w_Mod cs mq M ++ w_Out cs o u50_0 ++ w_Xo cs x tq h a u50_1 ++ w_Text cs tq u50_2 ++ w_Hist cs h a u50_3 ++ linesW cs a 18 u50_4) := z_perm_D z_lob hDx
        refine lv_istore (lv' := [(5, .int r50), (0, .ref b), (1, .ref (x 0)), (2, .ref (mq 0)), (3, .ref o), (4, .int x4)]) hx hb dL_law_482 hl (by decide) rfl (fun ls hl => ?_)
        refine lv_aload_n hx hb dL_law_484 rfl (lv_at hl 3 rfl) ?_
        refine lv_aload_n hx hb dL_law_485 rfl (lv_at hl 1 rfl) ?_
        refine lv_iload hx hb dL_law_486 (lv_at hl 5 rfl) ?_
        refine lv_iconst (v := (1 : Int32)) hx hb dL_law_488 (by decide) ?_
        refine lv_iadd hx hb dL_law_489 ?_
        obtain ⟨h51, hw⟩ := hw
        refine va_sld hx hb hX hbl hbA hS h51 dL_law_490 ?_
        refine lv_aload_n hx hb dL_law_491 rfl (lv_at hl 1 rfl) ?_
        refine lv_iload hx hb dL_law_492 (lv_at hl 5 rfl) ?_
        refine lv_iconst (v := (2 : Int32)) hx hb dL_law_494 (by decide) ?_
        refine lv_iadd hx hb dL_law_495 ?_
        obtain ⟨h52, hw⟩ := hw
        refine va_sld hx hb hX hbl hbA hS h52 dL_law_496 ?_
        have hPx := z_perm_P z_lm hP
        have hDx := z_perm_D z_lm hD
        have hPc := (z_app_P hPx).1
        have hDc := (z_app_D hDx).1
        have hFc := z_free hDx hS hA
        refine va_calli (va_runV (As := [.int (xs (x4 + (1 : Int32)).toNatClampNeg), .int (xs (x4 + (2 : Int32)).toNatClampNeg)]) (rest := []) ⟨hx, hb, hml, hown, hts⟩ (c_X4_counter l D cs mq H.size M (xs (x4 + (1 : Int32)).toNatClampNeg) (xs (x4 + (2 : Int32)).toNatClampNeg) _ hw) (cwV 2 hts gL_law_X4_counter rfl rfl rfl (by decide +kernel) ⟨Nat.le_of_ble_eq_true rfl, Nat.le_of_ble_eq_true rfl⟩) (PC_V hPc hDc hKK 0 4 rfl rfl) rfl rfl hl.1 rfl (lv_room (Nat.le_of_ble_eq_true rfl)) dL_law_497 ⟨by show _ ≤ 601024; omega, by show _ ≤ 7293034; omega⟩) hS (fun q _ h => hFc q h) hFc (fun r53 u53 t H locs ht hvm hw hB hz1 hk1 hS => ?_)
        obtain ⟨hP1, hD1⟩ := hB
        rw [ht] at hP1
        obtain ⟨hPx, hDx⟩ := z_join hPx hDx hk1 hFc hP1 hD1
        have hP : va_P D vwCl (w_Mod cs mq u53 ++ w_Out cs o u50_0 ++ w_Xo cs x tq h a u50_1 ++ w_Text cs tq u50_2 ++ w_Hist cs h a u50_3 ++ linesW cs a 18 u50_4) H := z_perm_P z_lmb hPx
        have hD : va_D (fun q : Nat => s.heap.size ≤ q) (w_Mod cs mq u53 ++ w_Out cs o u50_0 ++ w_Xo cs x tq h a u50_1 ++ w_Text cs tq u50_2 ++ w_Hist cs h a u50_3 ++ linesW cs a 18 u50_4) := z_perm_D z_lmb hDx
        refine lv_istore (lv' := [(6, .int r53), (5, .int r50), (0, .ref b), (1, .ref (x 0)), (2, .ref (mq 0)), (3, .ref o), (4, .int x4)]) hx hb dL_law_500 hl (by decide) rfl (fun ls hl => ?_)
        refine lv_aload_n hx hb dL_law_502 rfl (lv_at hl 4 rfl) ?_
        have hPx := z_perm_P z_lm hP
        have hDx := z_perm_D z_lm hD
        have hPc := (z_app_P hPx).1
        have hDc := (z_app_D hDx).1
        refine z_calli (va_runV (As := []) (rest := []) ⟨hx, hb, hml, hown, hts⟩ (c_X4_thrown l D cs mq H.size u53 _ hw) (cwV 0 hts gL_law_X4_thrown rfl rfl rfl (by decide +kernel) ⟨Nat.le_of_ble_eq_true rfl, Nat.le_of_ble_eq_true rfl⟩) (PC_V hPc hDc hKK 0 4 rfl rfl) rfl rfl hl.1 rfl (lv_room (Nat.le_of_ble_eq_true rfl)) dL_law_503 ⟨by show _ ≤ 601024; omega, by show _ ≤ 7293034; omega⟩) (fun r54 hw => ?_)
        refine lv_iload hx hb dL_law_506 (lv_at hl 1 rfl) ?_
        refine lv_icmp_eq (tgt := 513) hx hb dL_law_508 (by decide) (fun c55 => ?_) (fun c55 => ?_)
        · have hw := hw.1 c55
          refine lv_iload hx hb dL_law_513 (lv_at hl 1 rfl) ?_
          refine lv_if_ne (tgt := 530) hx hb dL_law_515 (by decide) (fun c56 => ?_) (fun c56 => ?_)
          · have hw := hw.2 c56
            refine lv_goto (tgt := 1991) hx hb dL_law_530 (by decide) ?_
            refine lv_iinc (v := x4 + 4) (lv' := [(4, .int (x4 + 4)), (6, .int r53), (5, .int r50), (0, .ref b), (1, .ref (x 0)), (2, .ref (mq 0)), (3, .ref o)]) hx hb dL_law_1991 hl (k := 6) rfl rfl (by decide) rfl (fun ls hl => ?_)
            refine lv_goto (tgt := 23) hx hb dL_law_1994 (by decide) ?_
            refine W.widen (k := 1000 + 3 * (j + 1)) (n := 20000 + 18 * (j + 1)) (by omega) (by omega) ?_
            exact ih _ _ _ _ _ _ _ (j + 1) (by omega) hw _ _ hP hD hS ls (lv_sub hl [3, 4, 5, 6, 0] rfl)
          · have hw := hw.1 c56
            refine lv_aload_n hx hb dL_law_518 rfl (lv_at hl 5 rfl) ?_
            refine lv_iconst (v := (0 : Int32)) hx hb dL_law_519 (by decide) ?_
            refine va_lald hx hb hK hP 9 3 rfl rfl (show vp_in (0 : Int32) 1 by unfold vp_in; decide) dL_law_520 ?_
            refine lv_iload hx hb dL_law_521 (lv_at hl 0 rfl) ?_
            refine lv_i2l (v := r53.toInt64) hx hb dL_law_523 rfl ?_
            refine W.lcmp hx hb dL_law_524 ?_
            refine lv_if_eq (tgt := 530) hx hb dL_law_525 (by decide) (fun c57 => ?_) (fun c57 => ?_)
            · have hw := hw.1 c57
              refine lv_goto (tgt := 1991) hx hb dL_law_530 (by decide) ?_
              refine lv_iinc (v := x4 + 4) (lv' := [(4, .int (x4 + 4)), (6, .int r53), (5, .int r50), (0, .ref b), (1, .ref (x 0)), (2, .ref (mq 0)), (3, .ref o)]) hx hb dL_law_1991 hl (k := 6) rfl rfl (by decide) rfl (fun ls hl => ?_)
              refine lv_goto (tgt := 23) hx hb dL_law_1994 (by decide) ?_
              refine W.widen (k := 1000 + 3 * (j + 1)) (n := 20000 + 18 * (j + 1)) (by omega) (by omega) ?_
              exact ih _ _ _ _ _ _ _ (j + 1) (by omega) hw _ _ hP hD hS ls (lv_sub hl [3, 4, 5, 6, 0] rfl)
            · have hw := hw.2 c57
              refine lv_iconst (v := (0 : Int32)) hx hb dL_law_528 (by decide) ?_
              exact False.elim hw
        · have hw := hw.2 c55
          refine lv_iconst (v := (0 : Int32)) hx hb dL_law_511 (by decide) ?_
          exact False.elim hw
      have hw := hw.2 c3_7
      by_cases c3_8 : ((xs x4.toNatClampNeg) &&& (31 : Int32)) = 8
      · have hw := hw.1 c3_8
        refine lv_tableIn (off := 494) (tgt := 533) hx hb dL_law_39 (by rw [c3_8]; decide) (by rw [c3_8]; decide) (by rw [c3_8]; rfl) (by decide) ?_
        refine lv_aload_n hx hb dL_law_533 rfl (lv_at hl 1 rfl) ?_
        refine lv_aload_n hx hb dL_law_534 rfl (lv_at hl 0 rfl) ?_
        refine lv_iload hx hb dL_law_535 (lv_at hl 4 rfl) ?_
        refine lv_iconst (v := (1 : Int32)) hx hb dL_law_537 (by decide) ?_
        refine lv_iadd hx hb dL_law_538 ?_
        obtain ⟨h58, hw⟩ := hw
        refine va_sld hx hb hX hbl hbA hS h58 dL_law_539 ?_
        refine lv_aload_n hx hb dL_law_540 rfl (lv_at hl 0 rfl) ?_
        refine lv_iload hx hb dL_law_541 (lv_at hl 4 rfl) ?_
        refine lv_iconst (v := (2 : Int32)) hx hb dL_law_543 (by decide) ?_
        refine lv_iadd hx hb dL_law_544 ?_
        obtain ⟨h59, hw⟩ := hw
        refine va_sld hx hb hX hbl hbA hS h59 dL_law_545 ?_
        refine lv_aload_n hx hb dL_law_546 rfl (lv_at hl 0 rfl) ?_
        refine lv_iload hx hb dL_law_547 (lv_at hl 4 rfl) ?_
        refine lv_iconst (v := (3 : Int32)) hx hb dL_law_549 (by decide) ?_
        refine lv_iadd hx hb dL_law_550 ?_
        obtain ⟨h60, hw⟩ := hw
        refine va_sld hx hb hX hbl hbA hS h60 dL_law_551 ?_
        refine lv_aload_n hx hb dL_law_552 rfl (lv_at hl 3 rfl) ?_
        have hPx := z_perm_P z_lo hP
        have hDx := z_perm_D z_lo hD
        have hPc := (z_app_P hPx).1
        have hDc := (z_app_D hDx).1
        have hFc := z_free hDx hS hA
        refine vx_calli (vx_runSX (As := [.ref (x 0), .int (xs (x4 + (1 : Int32)).toNatClampNeg), .int (xs (x4 + (2 : Int32)).toNatClampNeg), .int (xs (x4 + (3 : Int32)).toNatClampNeg), .ref o]) (rest := []) ⟨hx, hb, hml, hown, hts⟩ (c_L_place l hfl D cs o x tq h a H.size sa f S tx hs Ls (xs (x4 + (1 : Int32)).toNatClampNeg) (xs (x4 + (2 : Int32)).toNatClampNeg) (xs (x4 + (3 : Int32)).toNatClampNeg) _ hw) (vx_cwSW 5 hts gL_law_L_place rfl rfl rfl (by decide +kernel) ⟨Nat.le_of_ble_eq_true rfl, Nat.le_of_ble_eq_true rfl⟩) (PX_S hPc hDc hKK hTW hTZ hS hFc) rfl rfl hl.1 rfl (lv_room (Nat.le_of_ble_eq_true rfl)) dL_law_553 ⟨by show _ ≤ 601024; omega, by show _ ≤ 7293034; omega⟩) hS (fun q _ h => hFc q h) hFc (fun q _ h => hFc q h) ?_ (fun r61 u61 t H locs ht hvm hw hB hz1 hk1 hS => ?_)
        · intro E ce q9 u61 t H locs ht hvm hpx hB hz1 hk1 hS hq9 hce hcl
          exact hpx.elim
        obtain ⟨u61_0, u61_1, u61_2, u61_3, u61_4⟩ := u61
        obtain ⟨hP1, hD1⟩ := hB
        rw [ht] at hP1
        obtain ⟨hPx, hDx⟩ := z_join hPx hDx hk1 hFc hP1 hD1
        have hP : va_P D vwCl (w_Mod cs mq M ++ w_Out cs o u61_0 ++ w_Xo cs x tq h a u61_1 ++ w_Text cs tq u61_2 ++ w_Hist cs h a u61_3 ++ linesW cs a 18 u61_4) H := z_perm_P z_lob hPx
        have hD : va_D (fun q : Nat => s.heap.size ≤ q) (w_Mod cs mq M ++ w_Out cs o u61_0 ++ w_Xo cs x tq h a u61_1 ++ w_Text cs tq u61_2 ++ w_Hist cs h a u61_3 ++ linesW cs a 18 u61_4) := z_perm_D z_lob hDx
        refine lv_istore (lv' := [(5, .int r61), (0, .ref b), (1, .ref (x 0)), (2, .ref (mq 0)), (3, .ref o), (4, .int x4)]) hx hb dL_law_556 hl (by decide) rfl (fun ls hl => ?_)
        refine lv_aload_n hx hb dL_law_558 rfl (lv_at hl 3 rfl) ?_
        refine lv_aload_n hx hb dL_law_559 rfl (lv_at hl 1 rfl) ?_
        refine lv_iload hx hb dL_law_560 (lv_at hl 5 rfl) ?_
        refine lv_iconst (v := (1 : Int32)) hx hb dL_law_562 (by decide) ?_
        refine lv_iadd hx hb dL_law_563 ?_
        obtain ⟨h62, hw⟩ := hw
        refine va_sld hx hb hX hbl hbA hS h62 dL_law_564 ?_
        refine lv_aload_n hx hb dL_law_565 rfl (lv_at hl 1 rfl) ?_
        refine lv_iload hx hb dL_law_566 (lv_at hl 5 rfl) ?_
        refine lv_iconst (v := (2 : Int32)) hx hb dL_law_568 (by decide) ?_
        refine lv_iadd hx hb dL_law_569 ?_
        obtain ⟨h63, hw⟩ := hw
        refine va_sld hx hb hX hbl hbA hS h63 dL_law_570 ?_
        refine lv_aload_n hx hb dL_law_571 rfl (lv_at hl 1 rfl) ?_
        refine lv_iload hx hb dL_law_572 (lv_at hl 5 rfl) ?_
        refine lv_iconst (v := (3 : Int32)) hx hb dL_law_574 (by decide) ?_
        refine lv_iadd hx hb dL_law_575 ?_
        obtain ⟨h64, hw⟩ := hw
        refine va_sld hx hb hX hbl hbA hS h64 dL_law_576 ?_
        have hPx := z_perm_P z_lm hP
        have hDx := z_perm_D z_lm hD
        have hPc := (z_app_P hPx).1
        have hDc := (z_app_D hDx).1
        have hFc := z_free hDx hS hA
        refine va_calli (va_runV (As := [.int (xs (x4 + (1 : Int32)).toNatClampNeg), .int (xs (x4 + (2 : Int32)).toNatClampNeg), .int (xs (x4 + (3 : Int32)).toNatClampNeg)]) (rest := []) ⟨hx, hb, hml, hown, hts⟩ (c_X4_place l D cs mq H.size M (xs (x4 + (1 : Int32)).toNatClampNeg) (xs (x4 + (2 : Int32)).toNatClampNeg) (xs (x4 + (3 : Int32)).toNatClampNeg) _ hw) (cwV 3 hts gL_law_X4_place rfl rfl rfl (by decide +kernel) ⟨Nat.le_of_ble_eq_true rfl, Nat.le_of_ble_eq_true rfl⟩) (PC_V hPc hDc hKK 0 4 rfl rfl) rfl rfl hl.1 rfl (lv_room (Nat.le_of_ble_eq_true rfl)) dL_law_577 ⟨by show _ ≤ 601024; omega, by show _ ≤ 7293034; omega⟩) hS (fun q _ h => hFc q h) hFc (fun r65 u65 t H locs ht hvm hw hB hz1 hk1 hS => ?_)
        obtain ⟨hP1, hD1⟩ := hB
        rw [ht] at hP1
        obtain ⟨hPx, hDx⟩ := z_join hPx hDx hk1 hFc hP1 hD1
        have hP : va_P D vwCl (w_Mod cs mq u65 ++ w_Out cs o u61_0 ++ w_Xo cs x tq h a u61_1 ++ w_Text cs tq u61_2 ++ w_Hist cs h a u61_3 ++ linesW cs a 18 u61_4) H := z_perm_P z_lmb hPx
        have hD : va_D (fun q : Nat => s.heap.size ≤ q) (w_Mod cs mq u65 ++ w_Out cs o u61_0 ++ w_Xo cs x tq h a u61_1 ++ w_Text cs tq u61_2 ++ w_Hist cs h a u61_3 ++ linesW cs a 18 u61_4) := z_perm_D z_lmb hDx
        refine lv_istore (lv' := [(6, .int r65), (5, .int r61), (0, .ref b), (1, .ref (x 0)), (2, .ref (mq 0)), (3, .ref o), (4, .int x4)]) hx hb dL_law_580 hl (by decide) rfl (fun ls hl => ?_)
        refine lv_aload_n hx hb dL_law_582 rfl (lv_at hl 4 rfl) ?_
        have hPx := z_perm_P z_lm hP
        have hDx := z_perm_D z_lm hD
        have hPc := (z_app_P hPx).1
        have hDc := (z_app_D hDx).1
        refine z_calli (va_runV (As := []) (rest := []) ⟨hx, hb, hml, hown, hts⟩ (c_X4_thrown l D cs mq H.size u65 _ hw) (cwV 0 hts gL_law_X4_thrown rfl rfl rfl (by decide +kernel) ⟨Nat.le_of_ble_eq_true rfl, Nat.le_of_ble_eq_true rfl⟩) (PC_V hPc hDc hKK 0 4 rfl rfl) rfl rfl hl.1 rfl (lv_room (Nat.le_of_ble_eq_true rfl)) dL_law_583 ⟨by show _ ≤ 601024; omega, by show _ ≤ 7293034; omega⟩) (fun r66 hw => ?_)
        refine lv_iload hx hb dL_law_586 (lv_at hl 1 rfl) ?_
        refine lv_icmp_eq (tgt := 593) hx hb dL_law_588 (by decide) (fun c67 => ?_) (fun c67 => ?_)
        · have hw := hw.1 c67
          refine lv_iload hx hb dL_law_593 (lv_at hl 1 rfl) ?_
          refine lv_if_ne (tgt := 610) hx hb dL_law_595 (by decide) (fun c68 => ?_) (fun c68 => ?_)
          · have hw := hw.2 c68
            refine lv_goto (tgt := 1991) hx hb dL_law_610 (by decide) ?_
            refine lv_iinc (v := x4 + 4) (lv' := [(4, .int (x4 + 4)), (6, .int r65), (5, .int r61), (0, .ref b), (1, .ref (x 0)), (2, .ref (mq 0)), (3, .ref o)]) hx hb dL_law_1991 hl (k := 6) rfl rfl (by decide) rfl (fun ls hl => ?_)
            refine lv_goto (tgt := 23) hx hb dL_law_1994 (by decide) ?_
            refine W.widen (k := 1000 + 3 * (j + 1)) (n := 20000 + 18 * (j + 1)) (by omega) (by omega) ?_
            exact ih _ _ _ _ _ _ _ (j + 1) (by omega) hw _ _ hP hD hS ls (lv_sub hl [3, 4, 5, 6, 0] rfl)
          · have hw := hw.1 c68
            refine lv_aload_n hx hb dL_law_598 rfl (lv_at hl 5 rfl) ?_
            refine lv_iconst (v := (0 : Int32)) hx hb dL_law_599 (by decide) ?_
            refine va_lald hx hb hK hP 9 3 rfl rfl (show vp_in (0 : Int32) 1 by unfold vp_in; decide) dL_law_600 ?_
            refine lv_iload hx hb dL_law_601 (lv_at hl 0 rfl) ?_
            refine lv_i2l (v := r65.toInt64) hx hb dL_law_603 rfl ?_
            refine W.lcmp hx hb dL_law_604 ?_
            refine lv_if_eq (tgt := 610) hx hb dL_law_605 (by decide) (fun c69 => ?_) (fun c69 => ?_)
            · have hw := hw.1 c69
              refine lv_goto (tgt := 1991) hx hb dL_law_610 (by decide) ?_
              refine lv_iinc (v := x4 + 4) (lv' := [(4, .int (x4 + 4)), (6, .int r65), (5, .int r61), (0, .ref b), (1, .ref (x 0)), (2, .ref (mq 0)), (3, .ref o)]) hx hb dL_law_1991 hl (k := 6) rfl rfl (by decide) rfl (fun ls hl => ?_)
              refine lv_goto (tgt := 23) hx hb dL_law_1994 (by decide) ?_
              refine W.widen (k := 1000 + 3 * (j + 1)) (n := 20000 + 18 * (j + 1)) (by omega) (by omega) ?_
              exact ih _ _ _ _ _ _ _ (j + 1) (by omega) hw _ _ hP hD hS ls (lv_sub hl [3, 4, 5, 6, 0] rfl)
            · have hw := hw.2 c69
              refine lv_iconst (v := (0 : Int32)) hx hb dL_law_608 (by decide) ?_
              exact False.elim hw
        · have hw := hw.2 c67
          refine lv_iconst (v := (0 : Int32)) hx hb dL_law_591 (by decide) ?_
          exact False.elim hw
      have hw := hw.2 c3_8
      by_cases c3_9 : ((xs x4.toNatClampNeg) &&& (31 : Int32)) = 9
      · have hw := hw.1 c3_9
        refine lv_tableIn (off := 574) (tgt := 613) hx hb dL_law_39 (by rw [c3_9]; decide) (by rw [c3_9]; decide) (by rw [c3_9]; rfl) (by decide) ?_
        refine lv_aload_n hx hb dL_law_613 rfl (lv_at hl 1 rfl) ?_
        refine lv_aload_n hx hb dL_law_614 rfl (lv_at hl 0 rfl) ?_
        refine lv_iload hx hb dL_law_615 (lv_at hl 4 rfl) ?_
        refine lv_iconst (v := (1 : Int32)) hx hb dL_law_617 (by decide) ?_
        refine lv_iadd hx hb dL_law_618 ?_
        obtain ⟨h70, hw⟩ := hw
        refine va_sld hx hb hX hbl hbA hS h70 dL_law_619 ?_
        refine lv_aload_n hx hb dL_law_620 rfl (lv_at hl 0 rfl) ?_
        refine lv_iload hx hb dL_law_621 (lv_at hl 4 rfl) ?_
        refine lv_iconst (v := (2 : Int32)) hx hb dL_law_623 (by decide) ?_
        refine lv_iadd hx hb dL_law_624 ?_
        obtain ⟨h71, hw⟩ := hw
        refine va_sld hx hb hX hbl hbA hS h71 dL_law_625 ?_
        refine lv_aload_n hx hb dL_law_626 rfl (lv_at hl 3 rfl) ?_
        have hPx := z_perm_P z_lo hP
        have hDx := z_perm_D z_lo hD
        have hPc := (z_app_P hPx).1
        have hDc := (z_app_D hDx).1
        have hFc := z_free hDx hS hA
        refine vx_calli (vx_runSX (As := [.ref (x 0), .int (xs (x4 + (1 : Int32)).toNatClampNeg), .int (xs (x4 + (2 : Int32)).toNatClampNeg), .ref o]) (rest := []) ⟨hx, hb, hml, hown, hts⟩ (c_L_ticket l hfl D cs o x tq h a H.size sa f S tx hs Ls (xs (x4 + (1 : Int32)).toNatClampNeg) (xs (x4 + (2 : Int32)).toNatClampNeg) _ hw) (vx_cwSW 4 hts gL_law_L_ticket rfl rfl rfl (by decide +kernel) ⟨Nat.le_of_ble_eq_true rfl, Nat.le_of_ble_eq_true rfl⟩) (PX_S hPc hDc hKK hTW hTZ hS hFc) rfl rfl hl.1 rfl (lv_room (Nat.le_of_ble_eq_true rfl)) dL_law_627 ⟨by show _ ≤ 601024; omega, by show _ ≤ 7293034; omega⟩) hS (fun q _ h => hFc q h) hFc (fun q _ h => hFc q h) ?_ (fun r72 u72 t H locs ht hvm hw hB hz1 hk1 hS => ?_)
        · intro E ce q9 u72 t H locs ht hvm hpx hB hz1 hk1 hS hq9 hce hcl
          exact hpx.elim
        obtain ⟨u72_0, u72_1, u72_2, u72_3, u72_4⟩ := u72
        obtain ⟨hP1, hD1⟩ := hB
        rw [ht] at hP1
        obtain ⟨hPx, hDx⟩ := z_join hPx hDx hk1 hFc hP1 hD1
        have hP : va_P D vwCl (w_Mod cs mq M ++ w_Out cs o u72_0 ++ w_Xo cs x tq h a u72_1 ++ w_Text cs tq u72_2 ++ w_Hist cs h a u72_3 ++ linesW cs a 18 u72_4) H := z_perm_P z_lob hPx
        have hD : va_D (fun q : Nat => s.heap.size ≤ q) (w_Mod cs mq M ++ w_Out cs o u72_0 ++ w_Xo cs x tq h a u72_1 ++ w_Text cs tq u72_2 ++ w_Hist cs h a u72_3 ++ linesW cs a 18 u72_4) := z_perm_D z_lob hDx
        refine lv_istore (lv' := [(5, .int r72), (0, .ref b), (1, .ref (x 0)), (2, .ref (mq 0)), (3, .ref o), (4, .int x4)]) hx hb dL_law_630 hl (by decide) rfl (fun ls hl => ?_)
        refine lv_aload_n hx hb dL_law_632 rfl (lv_at hl 3 rfl) ?_
        refine lv_aload_n hx hb dL_law_633 rfl (lv_at hl 1 rfl) ?_
        refine lv_iload hx hb dL_law_634 (lv_at hl 5 rfl) ?_
        refine lv_iconst (v := (1 : Int32)) hx hb dL_law_636 (by decide) ?_
        refine lv_iadd hx hb dL_law_637 ?_
        obtain ⟨h73, hw⟩ := hw
        refine va_sld hx hb hX hbl hbA hS h73 dL_law_638 ?_
        refine lv_aload_n hx hb dL_law_639 rfl (lv_at hl 1 rfl) ?_
        refine lv_iload hx hb dL_law_640 (lv_at hl 5 rfl) ?_
        refine lv_iconst (v := (2 : Int32)) hx hb dL_law_642 (by decide) ?_
        refine lv_iadd hx hb dL_law_643 ?_
        obtain ⟨h74, hw⟩ := hw
        refine va_sld hx hb hX hbl hbA hS h74 dL_law_644 ?_
        have hPx := z_perm_P z_lm hP
        have hDx := z_perm_D z_lm hD
        have hPc := (z_app_P hPx).1
        have hDc := (z_app_D hDx).1
        have hFc := z_free hDx hS hA
        refine va_calll (va_runV (As := [.int (xs (x4 + (1 : Int32)).toNatClampNeg), .int (xs (x4 + (2 : Int32)).toNatClampNeg)]) (rest := []) ⟨hx, hb, hml, hown, hts⟩ (c_X4_ticket l D cs mq H.size M (xs (x4 + (1 : Int32)).toNatClampNeg) (xs (x4 + (2 : Int32)).toNatClampNeg) _ hw) (cwV 2 hts gL_law_X4_ticket rfl rfl rfl (by decide +kernel) ⟨Nat.le_of_ble_eq_true rfl, Nat.le_of_ble_eq_true rfl⟩) (PC_V hPc hDc hKK 0 4 rfl rfl) rfl rfl hl.1 rfl (lv_room (Nat.le_of_ble_eq_true rfl)) dL_law_645 ⟨by show _ ≤ 601024; omega, by show _ ≤ 7293034; omega⟩) hS (fun q _ h => hFc q h) hFc (fun r75 u75 t H locs ht hvm hw hB hz1 hk1 hS => ?_)
        obtain ⟨hP1, hD1⟩ := hB
        rw [ht] at hP1
        obtain ⟨hPx, hDx⟩ := z_join hPx hDx hk1 hFc hP1 hD1
        have hP : va_P D vwCl (w_Mod cs mq u75 ++ w_Out cs o u72_0 ++ w_Xo cs x tq h a u72_1 ++ w_Text cs tq u72_2 ++ w_Hist cs h a u72_3 ++ linesW cs a 18 u72_4) H := z_perm_P z_lmb hPx
        have hD : va_D (fun q : Nat => s.heap.size ≤ q) (w_Mod cs mq u75 ++ w_Out cs o u72_0 ++ w_Xo cs x tq h a u72_1 ++ w_Text cs tq u72_2 ++ w_Hist cs h a u72_3 ++ linesW cs a 18 u72_4) := z_perm_D z_lmb hDx
        refine lv_lstore (lv' := [(6, .long r75), (5, .int r72), (0, .ref b), (1, .ref (x 0)), (2, .ref (mq 0)), (3, .ref o), (4, .int x4)]) hx hb dL_law_648 hl (by decide) rfl (fun ls hl => ?_)
        refine lv_aload_n hx hb dL_law_650 rfl (lv_at hl 4 rfl) ?_
        have hPx := z_perm_P z_lm hP
        have hDx := z_perm_D z_lm hD
        have hPc := (z_app_P hPx).1
        have hDc := (z_app_D hDx).1
        refine z_calli (va_runV (As := []) (rest := []) ⟨hx, hb, hml, hown, hts⟩ (c_X4_thrown l D cs mq H.size u75 _ hw) (cwV 0 hts gL_law_X4_thrown rfl rfl rfl (by decide +kernel) ⟨Nat.le_of_ble_eq_true rfl, Nat.le_of_ble_eq_true rfl⟩) (PC_V hPc hDc hKK 0 4 rfl rfl) rfl rfl hl.1 rfl (lv_room (Nat.le_of_ble_eq_true rfl)) dL_law_651 ⟨by show _ ≤ 601024; omega, by show _ ≤ 7293034; omega⟩) (fun r76 hw => ?_)
        refine lv_iload hx hb dL_law_654 (lv_at hl 1 rfl) ?_
        refine lv_icmp_eq (tgt := 661) hx hb dL_law_656 (by decide) (fun c77 => ?_) (fun c77 => ?_)
        · have hw := hw.1 c77
          refine lv_iload hx hb dL_law_661 (lv_at hl 1 rfl) ?_
          refine lv_if_ne (tgt := 677) hx hb dL_law_663 (by decide) (fun c78 => ?_) (fun c78 => ?_)
          · have hw := hw.2 c78
            refine lv_goto (tgt := 1991) hx hb dL_law_677 (by decide) ?_
            refine lv_iinc (v := x4 + 4) (lv' := [(4, .int (x4 + 4)), (6, .long r75), (5, .int r72), (0, .ref b), (1, .ref (x 0)), (2, .ref (mq 0)), (3, .ref o)]) hx hb dL_law_1991 hl (k := 6) rfl rfl (by decide) rfl (fun ls hl => ?_)
            refine lv_goto (tgt := 23) hx hb dL_law_1994 (by decide) ?_
            refine W.widen (k := 1000 + 3 * (j + 1)) (n := 20000 + 18 * (j + 1)) (by omega) (by omega) ?_
            exact ih _ _ _ _ _ _ _ (j + 1) (by omega) hw _ _ hP hD hS ls (lv_sub hl [3, 4, 5, 6, 0] rfl)
          · have hw := hw.1 c78
            refine lv_aload_n hx hb dL_law_666 rfl (lv_at hl 5 rfl) ?_
            refine lv_iconst (v := (0 : Int32)) hx hb dL_law_667 (by decide) ?_
            refine va_lald hx hb hK hP 9 3 rfl rfl (show vp_in (0 : Int32) 1 by unfold vp_in; decide) dL_law_668 ?_
            refine lv_lload hx hb dL_law_669 (lv_at hl 0 rfl) ?_
            refine W.lcmp hx hb dL_law_671 ?_
            refine lv_if_eq (tgt := 677) hx hb dL_law_672 (by decide) (fun c79 => ?_) (fun c79 => ?_)
            · have hw := hw.1 c79
              refine lv_goto (tgt := 1991) hx hb dL_law_677 (by decide) ?_
              refine lv_iinc (v := x4 + 4) (lv' := [(4, .int (x4 + 4)), (6, .long r75), (5, .int r72), (0, .ref b), (1, .ref (x 0)), (2, .ref (mq 0)), (3, .ref o)]) hx hb dL_law_1991 hl (k := 6) rfl rfl (by decide) rfl (fun ls hl => ?_)
              refine lv_goto (tgt := 23) hx hb dL_law_1994 (by decide) ?_
              refine W.widen (k := 1000 + 3 * (j + 1)) (n := 20000 + 18 * (j + 1)) (by omega) (by omega) ?_
              exact ih _ _ _ _ _ _ _ (j + 1) (by omega) hw _ _ hP hD hS ls (lv_sub hl [3, 4, 5, 6, 0] rfl)
            · have hw := hw.2 c79
              refine lv_iconst (v := (0 : Int32)) hx hb dL_law_675 (by decide) ?_
              exact False.elim hw
        · have hw := hw.2 c77
          refine lv_iconst (v := (0 : Int32)) hx hb dL_law_659 (by decide) ?_
          exact False.elim hw
      have hw := hw.2 c3_9
      by_cases c3_10 : ((xs x4.toNatClampNeg) &&& (31 : Int32)) = 10
      · have hw := hw.1 c3_10
        refine lv_tableIn (off := 641) (tgt := 680) hx hb dL_law_39 (by rw [c3_10]; decide) (by rw [c3_10]; decide) (by rw [c3_10]; rfl) (by decide) ?_
        refine lv_aload_n hx hb dL_law_680 rfl (lv_at hl 1 rfl) ?_
        refine lv_aload_n hx hb dL_law_681 rfl (lv_at hl 0 rfl) ?_
        refine lv_iload hx hb dL_law_682 (lv_at hl 4 rfl) ?_
        refine lv_iconst (v := (1 : Int32)) hx hb dL_law_684 (by decide) ?_
        refine lv_iadd hx hb dL_law_685 ?_
        obtain ⟨h80, hw⟩ := hw
        refine va_sld hx hb hX hbl hbA hS h80 dL_law_686 ?_
        refine lv_aload_n hx hb dL_law_687 rfl (lv_at hl 3 rfl) ?_
        have hPx := z_perm_P z_lo hP
        have hDx := z_perm_D z_lo hD
        have hPc := (z_app_P hPx).1
        have hDc := (z_app_D hDx).1
        have hFc := z_free hDx hS hA
        refine vx_calli (vx_runSX (As := [.ref (x 0), .int (xs (x4 + (1 : Int32)).toNatClampNeg), .ref o]) (rest := []) ⟨hx, hb, hml, hown, hts⟩ (c_L_sorted l hfl D cs o x tq h a H.size sa f S tx hs Ls (xs (x4 + (1 : Int32)).toNatClampNeg) _ hw) (vx_cwSW 3 hts gL_law_L_sorted rfl rfl rfl (by decide +kernel) ⟨Nat.le_of_ble_eq_true rfl, Nat.le_of_ble_eq_true rfl⟩) (PX_S hPc hDc hKK hTW hTZ hS hFc) rfl rfl hl.1 rfl (lv_room (Nat.le_of_ble_eq_true rfl)) dL_law_688 ⟨by show _ ≤ 601024; omega, by show _ ≤ 7293034; omega⟩) hS (fun q _ h => hFc q h) hFc (fun q _ h => hFc q h) ?_ (fun r81 u81 t H locs ht hvm hw hB hz1 hk1 hS => ?_)
        · intro E ce q9 u81 t H locs ht hvm hpx hB hz1 hk1 hS hq9 hce hcl
          exact hpx.elim
        obtain ⟨u81_0, u81_1, u81_2, u81_3, u81_4⟩ := u81
        obtain ⟨hP1, hD1⟩ := hB
        rw [ht] at hP1
        obtain ⟨hPx, hDx⟩ := z_join hPx hDx hk1 hFc hP1 hD1
        have hP : va_P D vwCl (w_Mod cs mq M ++ w_Out cs o u81_0 ++ w_Xo cs x tq h a u81_1 ++ w_Text cs tq u81_2 ++ w_Hist cs h a u81_3 ++ linesW cs a 18 u81_4) H := z_perm_P z_lob hPx
        have hD : va_D (fun q : Nat => s.heap.size ≤ q) (w_Mod cs mq M ++ w_Out cs o u81_0 ++ w_Xo cs x tq h a u81_1 ++ w_Text cs tq u81_2 ++ w_Hist cs h a u81_3 ++ linesW cs a 18 u81_4) := z_perm_D z_lob hDx
        refine lv_istore (lv' := [(5, .int r81), (0, .ref b), (1, .ref (x 0)), (2, .ref (mq 0)), (3, .ref o), (4, .int x4)]) hx hb dL_law_691 hl (by decide) rfl (fun ls hl => ?_)
        refine lv_aload_n hx hb dL_law_693 rfl (lv_at hl 3 rfl) ?_
        refine lv_aload_n hx hb dL_law_694 rfl (lv_at hl 1 rfl) ?_
        refine lv_iload hx hb dL_law_695 (lv_at hl 5 rfl) ?_
        refine lv_iconst (v := (1 : Int32)) hx hb dL_law_697 (by decide) ?_
        refine lv_iadd hx hb dL_law_698 ?_
        obtain ⟨h82, hw⟩ := hw
        refine va_sld hx hb hX hbl hbA hS h82 dL_law_699 ?_
        have hPx := z_perm_P z_lm hP
        have hDx := z_perm_D z_lm hD
        have hPc := (z_app_P hPx).1
        have hDc := (z_app_D hDx).1
        have hFc := z_free hDx hS hA
        refine va_calli (va_runV (As := [.int (xs (x4 + (1 : Int32)).toNatClampNeg)]) (rest := []) ⟨hx, hb, hml, hown, hts⟩ (c_X4_sorted l D cs mq H.size M (xs (x4 + (1 : Int32)).toNatClampNeg) _ hw) (cwV 1 hts gL_law_X4_sorted rfl rfl rfl (by decide +kernel) ⟨Nat.le_of_ble_eq_true rfl, Nat.le_of_ble_eq_true rfl⟩) (PC_V hPc hDc hKK 0 4 rfl rfl) rfl rfl hl.1 rfl (lv_room (Nat.le_of_ble_eq_true rfl)) dL_law_700 ⟨by show _ ≤ 601024; omega, by show _ ≤ 7293034; omega⟩) hS (fun q _ h => hFc q h) hFc (fun r83 u83 t H locs ht hvm hw hB hz1 hk1 hS => ?_)
        obtain ⟨hP1, hD1⟩ := hB
        rw [ht] at hP1
        obtain ⟨hPx, hDx⟩ := z_join hPx hDx hk1 hFc hP1 hD1
        have hP : va_P D vwCl (w_Mod cs mq u83 ++ w_Out cs o u81_0 ++ w_Xo cs x tq h a u81_1 ++ w_Text cs tq u81_2 ++ w_Hist cs h a u81_3 ++ linesW cs a 18 u81_4) H := z_perm_P z_lmb hPx
        have hD : va_D (fun q : Nat => s.heap.size ≤ q) (w_Mod cs mq u83 ++ w_Out cs o u81_0 ++ w_Xo cs x tq h a u81_1 ++ w_Text cs tq u81_2 ++ w_Hist cs h a u81_3 ++ linesW cs a 18 u81_4) := z_perm_D z_lmb hDx
        refine lv_istore (lv' := [(6, .int r83), (5, .int r81), (0, .ref b), (1, .ref (x 0)), (2, .ref (mq 0)), (3, .ref o), (4, .int x4)]) hx hb dL_law_703 hl (by decide) rfl (fun ls hl => ?_)
        refine lv_aload_n hx hb dL_law_705 rfl (lv_at hl 4 rfl) ?_
        have hPx := z_perm_P z_lm hP
        have hDx := z_perm_D z_lm hD
        have hPc := (z_app_P hPx).1
        have hDc := (z_app_D hDx).1
        refine z_calli (va_runV (As := []) (rest := []) ⟨hx, hb, hml, hown, hts⟩ (c_X4_thrown l D cs mq H.size u83 _ hw) (cwV 0 hts gL_law_X4_thrown rfl rfl rfl (by decide +kernel) ⟨Nat.le_of_ble_eq_true rfl, Nat.le_of_ble_eq_true rfl⟩) (PC_V hPc hDc hKK 0 4 rfl rfl) rfl rfl hl.1 rfl (lv_room (Nat.le_of_ble_eq_true rfl)) dL_law_706 ⟨by show _ ≤ 601024; omega, by show _ ≤ 7293034; omega⟩) (fun r84 hw => ?_)
        refine lv_iload hx hb dL_law_709 (lv_at hl 1 rfl) ?_
        refine lv_icmp_eq (tgt := 716) hx hb dL_law_711 (by decide) (fun c85 => ?_) (fun c85 => ?_)
        · have hw := hw.1 c85
          refine lv_iload hx hb dL_law_716 (lv_at hl 1 rfl) ?_
          refine lv_if_ne (tgt := 733) hx hb dL_law_718 (by decide) (fun c86 => ?_) (fun c86 => ?_)
          · have hw := hw.2 c86
            refine lv_goto (tgt := 1991) hx hb dL_law_733 (by decide) ?_
            refine lv_iinc (v := x4 + 4) (lv' := [(4, .int (x4 + 4)), (6, .int r83), (5, .int r81), (0, .ref b), (1, .ref (x 0)), (2, .ref (mq 0)), (3, .ref o)]) hx hb dL_law_1991 hl (k := 6) rfl rfl (by decide) rfl (fun ls hl => ?_)
            refine lv_goto (tgt := 23) hx hb dL_law_1994 (by decide) ?_
            refine W.widen (k := 1000 + 3 * (j + 1)) (n := 20000 + 18 * (j + 1)) (by omega) (by omega) ?_
            exact ih _ _ _ _ _ _ _ (j + 1) (by omega) hw _ _ hP hD hS ls (lv_sub hl [3, 4, 5, 6, 0] rfl)
          · have hw := hw.1 c86
            refine lv_aload_n hx hb dL_law_721 rfl (lv_at hl 5 rfl) ?_
            refine lv_iconst (v := (0 : Int32)) hx hb dL_law_722 (by decide) ?_
            refine va_lald hx hb hK hP 9 3 rfl rfl (show vp_in (0 : Int32) 1 by unfold vp_in; decide) dL_law_723 ?_
            refine lv_iload hx hb dL_law_724 (lv_at hl 0 rfl) ?_
            refine lv_i2l (v := r83.toInt64) hx hb dL_law_726 rfl ?_
            refine W.lcmp hx hb dL_law_727 ?_
            refine lv_if_eq (tgt := 733) hx hb dL_law_728 (by decide) (fun c87 => ?_) (fun c87 => ?_)
            · have hw := hw.1 c87
              refine lv_goto (tgt := 1991) hx hb dL_law_733 (by decide) ?_
              refine lv_iinc (v := x4 + 4) (lv' := [(4, .int (x4 + 4)), (6, .int r83), (5, .int r81), (0, .ref b), (1, .ref (x 0)), (2, .ref (mq 0)), (3, .ref o)]) hx hb dL_law_1991 hl (k := 6) rfl rfl (by decide) rfl (fun ls hl => ?_)
              refine lv_goto (tgt := 23) hx hb dL_law_1994 (by decide) ?_
              refine W.widen (k := 1000 + 3 * (j + 1)) (n := 20000 + 18 * (j + 1)) (by omega) (by omega) ?_
              exact ih _ _ _ _ _ _ _ (j + 1) (by omega) hw _ _ hP hD hS ls (lv_sub hl [3, 4, 5, 6, 0] rfl)
            · have hw := hw.2 c87
              refine lv_iconst (v := (0 : Int32)) hx hb dL_law_731 (by decide) ?_
              exact False.elim hw
        · have hw := hw.2 c85
          refine lv_iconst (v := (0 : Int32)) hx hb dL_law_714 (by decide) ?_
          exact False.elim hw
      have hw := hw.2 c3_10
      by_cases c3_11 : ((xs x4.toNatClampNeg) &&& (31 : Int32)) = 11
      · have hw := hw.1 c3_11
        refine lv_tableIn (off := 697) (tgt := 736) hx hb dL_law_39 (by rw [c3_11]; decide) (by rw [c3_11]; decide) (by rw [c3_11]; rfl) (by decide) ?_
        refine lv_aload_n hx hb dL_law_736 rfl (lv_at hl 1 rfl) ?_
        refine lv_aload_n hx hb dL_law_737 rfl (lv_at hl 0 rfl) ?_
        refine lv_iload hx hb dL_law_738 (lv_at hl 4 rfl) ?_
        refine lv_iconst (v := (1 : Int32)) hx hb dL_law_740 (by decide) ?_
        refine lv_iadd hx hb dL_law_741 ?_
        obtain ⟨h88, hw⟩ := hw
        refine va_sld hx hb hX hbl hbA hS h88 dL_law_742 ?_
        refine lv_aload_n hx hb dL_law_743 rfl (lv_at hl 0 rfl) ?_
        refine lv_iload hx hb dL_law_744 (lv_at hl 4 rfl) ?_
        refine lv_iconst (v := (2 : Int32)) hx hb dL_law_746 (by decide) ?_
        refine lv_iadd hx hb dL_law_747 ?_
        obtain ⟨h89, hw⟩ := hw
        refine va_sld hx hb hX hbl hbA hS h89 dL_law_748 ?_
        refine lv_if_eq (tgt := 756) hx hb dL_law_749 (by decide) (fun c90 => ?_) (fun c90 => ?_)
        · have hw := hw.1 c90
          refine lv_iconst (v := (0 : Int32)) hx hb dL_law_756 (by decide) ?_
          refine lv_aload_n hx hb dL_law_757 rfl (lv_at hl 3 rfl) ?_
          have hPx := z_perm_P z_lo hP
          have hDx := z_perm_D z_lo hD
          have hPc := (z_app_P hPx).1
          have hDc := (z_app_D hDx).1
          have hFc := z_free hDx hS hA
          refine vx_calli (vx_runSX (As := [.ref (x 0), .int (xs (x4 + (1 : Int32)).toNatClampNeg), .int (0 : Int32), .ref o]) (rest := []) ⟨hx, hb, hml, hown, hts⟩ (c_L_ranked l hfl D cs o x tq h a H.size sa f S tx hs Ls (xs (x4 + (1 : Int32)).toNatClampNeg) (0 : Int32) _ hw) (vx_cwSW 4 hts gL_law_L_ranked rfl rfl rfl (by decide +kernel) ⟨Nat.le_of_ble_eq_true rfl, Nat.le_of_ble_eq_true rfl⟩) (PX_S hPc hDc hKK hTW hTZ hS hFc) rfl rfl hl.1 rfl (lv_room (Nat.le_of_ble_eq_true rfl)) dL_law_758 ⟨by show _ ≤ 601024; omega, by show _ ≤ 7293034; omega⟩) hS (fun q _ h => hFc q h) hFc (fun q _ h => hFc q h) ?_ (fun r91 u91 t H locs ht hvm hw hB hz1 hk1 hS => ?_)
          · intro E ce q9 u91 t H locs ht hvm hpx hB hz1 hk1 hS hq9 hce hcl
            exact hpx.elim
          obtain ⟨u91_0, u91_1, u91_2, u91_3, u91_4⟩ := u91
          obtain ⟨hP1, hD1⟩ := hB
          rw [ht] at hP1
          obtain ⟨hPx, hDx⟩ := z_join hPx hDx hk1 hFc hP1 hD1
          have hP : va_P D vwCl (w_Mod cs mq M ++ w_Out cs o u91_0 ++ w_Xo cs x tq h a u91_1 ++ w_Text cs tq u91_2 ++ w_Hist cs h a u91_3 ++ linesW cs a 18 u91_4) H := z_perm_P z_lob hPx
          have hD : va_D (fun q : Nat => s.heap.size ≤ q) (w_Mod cs mq M ++ w_Out cs o u91_0 ++ w_Xo cs x tq h a u91_1 ++ w_Text cs tq u91_2 ++ w_Hist cs h a u91_3 ++ linesW cs a 18 u91_4) := z_perm_D z_lob hDx
          refine lv_istore (lv' := [(5, .int r91), (0, .ref b), (1, .ref (x 0)), (2, .ref (mq 0)), (3, .ref o), (4, .int x4)]) hx hb dL_law_761 hl (by decide) rfl (fun ls hl => ?_)
          refine lv_aload_n hx hb dL_law_763 rfl (lv_at hl 3 rfl) ?_
          refine lv_aload_n hx hb dL_law_764 rfl (lv_at hl 1 rfl) ?_
          refine lv_iload hx hb dL_law_765 (lv_at hl 5 rfl) ?_
          refine lv_iconst (v := (1 : Int32)) hx hb dL_law_767 (by decide) ?_
          refine lv_iadd hx hb dL_law_768 ?_
          obtain ⟨h92, hw⟩ := hw
          refine va_sld hx hb hX hbl hbA hS h92 dL_law_769 ?_
          refine lv_aload_n hx hb dL_law_770 rfl (lv_at hl 1 rfl) ?_
          refine lv_iload hx hb dL_law_771 (lv_at hl 5 rfl) ?_
          refine lv_iconst (v := (2 : Int32)) hx hb dL_law_773 (by decide) ?_
          refine lv_iadd hx hb dL_law_774 ?_
          obtain ⟨h93, hw⟩ := hw
          refine va_sld hx hb hX hbl hbA hS h93 dL_law_775 ?_
          refine lv_if_eq (tgt := 783) hx hb dL_law_776 (by decide) (fun c94 => ?_) (fun c94 => ?_)
          · have hw := hw.1 c94
            refine lv_iconst (v := (0 : Int32)) hx hb dL_law_783 (by decide) ?_
            have hPx := z_perm_P z_lm hP
            have hDx := z_perm_D z_lm hD
            have hPc := (z_app_P hPx).1
            have hDc := (z_app_D hDx).1
            have hFc := z_free hDx hS hA
            refine va_calli (va_runV (As := [.int (xs (x4 + (1 : Int32)).toNatClampNeg), .int (0 : Int32)]) (rest := []) ⟨hx, hb, hml, hown, hts⟩ (c_X4_ranked l D cs mq H.size M (xs (x4 + (1 : Int32)).toNatClampNeg) (0 : Int32) _ hw) (cwV 2 hts gL_law_X4_ranked rfl rfl rfl (by decide +kernel) ⟨Nat.le_of_ble_eq_true rfl, Nat.le_of_ble_eq_true rfl⟩) (PC_V hPc hDc hKK 0 4 rfl rfl) rfl rfl hl.1 rfl (lv_room (Nat.le_of_ble_eq_true rfl)) dL_law_784 ⟨by show _ ≤ 601024; omega, by show _ ≤ 7293034; omega⟩) hS (fun q _ h => hFc q h) hFc (fun r95 u95 t H locs ht hvm hw hB hz1 hk1 hS => ?_)
            obtain ⟨hP1, hD1⟩ := hB
            rw [ht] at hP1
            obtain ⟨hPx, hDx⟩ := z_join hPx hDx hk1 hFc hP1 hD1
            have hP : va_P D vwCl (w_Mod cs mq u95 ++ w_Out cs o u91_0 ++ w_Xo cs x tq h a u91_1 ++ w_Text cs tq u91_2 ++ w_Hist cs h a u91_3 ++ linesW cs a 18 u91_4) H := z_perm_P z_lmb hPx
            have hD : va_D (fun q : Nat => s.heap.size ≤ q) (w_Mod cs mq u95 ++ w_Out cs o u91_0 ++ w_Xo cs x tq h a u91_1 ++ w_Text cs tq u91_2 ++ w_Hist cs h a u91_3 ++ linesW cs a 18 u91_4) := z_perm_D z_lmb hDx
            refine lv_istore (lv' := [(6, .int r95), (5, .int r91), (0, .ref b), (1, .ref (x 0)), (2, .ref (mq 0)), (3, .ref o), (4, .int x4)]) hx hb dL_law_787 hl (by decide) rfl (fun ls hl => ?_)
            refine lv_aload_n hx hb dL_law_789 rfl (lv_at hl 4 rfl) ?_
            have hPx := z_perm_P z_lm hP
            have hDx := z_perm_D z_lm hD
            have hPc := (z_app_P hPx).1
            have hDc := (z_app_D hDx).1
            refine z_calli (va_runV (As := []) (rest := []) ⟨hx, hb, hml, hown, hts⟩ (c_X4_thrown l D cs mq H.size u95 _ hw) (cwV 0 hts gL_law_X4_thrown rfl rfl rfl (by decide +kernel) ⟨Nat.le_of_ble_eq_true rfl, Nat.le_of_ble_eq_true rfl⟩) (PC_V hPc hDc hKK 0 4 rfl rfl) rfl rfl hl.1 rfl (lv_room (Nat.le_of_ble_eq_true rfl)) dL_law_790 ⟨by show _ ≤ 601024; omega, by show _ ≤ 7293034; omega⟩) (fun r96 hw => ?_)
            refine lv_iload hx hb dL_law_793 (lv_at hl 1 rfl) ?_
            refine lv_icmp_eq (tgt := 800) hx hb dL_law_795 (by decide) (fun c97 => ?_) (fun c97 => ?_)
            · have hw := hw.1 c97
              refine lv_iload hx hb dL_law_800 (lv_at hl 1 rfl) ?_
              refine lv_if_ne (tgt := 817) hx hb dL_law_802 (by decide) (fun c98 => ?_) (fun c98 => ?_)
              · have hw := hw.2 c98
                refine lv_goto (tgt := 1991) hx hb dL_law_817 (by decide) ?_
                refine lv_iinc (v := x4 + 4) (lv' := [(4, .int (x4 + 4)), (6, .int r95), (5, .int r91), (0, .ref b), (1, .ref (x 0)), (2, .ref (mq 0)), (3, .ref o)]) hx hb dL_law_1991 hl (k := 6) rfl rfl (by decide) rfl (fun ls hl => ?_)
                refine lv_goto (tgt := 23) hx hb dL_law_1994 (by decide) ?_
                refine W.widen (k := 1000 + 3 * (j + 1)) (n := 20000 + 18 * (j + 1)) (by omega) (by omega) ?_
                exact ih _ _ _ _ _ _ _ (j + 1) (by omega) hw _ _ hP hD hS ls (lv_sub hl [3, 4, 5, 6, 0] rfl)
              · have hw := hw.1 c98
                refine lv_aload_n hx hb dL_law_805 rfl (lv_at hl 5 rfl) ?_
                refine lv_iconst (v := (0 : Int32)) hx hb dL_law_806 (by decide) ?_
                refine va_lald hx hb hK hP 9 3 rfl rfl (show vp_in (0 : Int32) 1 by unfold vp_in; decide) dL_law_807 ?_
                refine lv_iload hx hb dL_law_808 (lv_at hl 0 rfl) ?_
                refine lv_i2l (v := r95.toInt64) hx hb dL_law_810 rfl ?_
                refine W.lcmp hx hb dL_law_811 ?_
                refine lv_if_eq (tgt := 817) hx hb dL_law_812 (by decide) (fun c99 => ?_) (fun c99 => ?_)
                · have hw := hw.1 c99
                  refine lv_goto (tgt := 1991) hx hb dL_law_817 (by decide) ?_
                  refine lv_iinc (v := x4 + 4) (lv' := [(4, .int (x4 + 4)), (6, .int r95), (5, .int r91), (0, .ref b), (1, .ref (x 0)), (2, .ref (mq 0)), (3, .ref o)]) hx hb dL_law_1991 hl (k := 6) rfl rfl (by decide) rfl (fun ls hl => ?_)
                  refine lv_goto (tgt := 23) hx hb dL_law_1994 (by decide) ?_
                  refine W.widen (k := 1000 + 3 * (j + 1)) (n := 20000 + 18 * (j + 1)) (by omega) (by omega) ?_
                  exact ih _ _ _ _ _ _ _ (j + 1) (by omega) hw _ _ hP hD hS ls (lv_sub hl [3, 4, 5, 6, 0] rfl)
                · have hw := hw.2 c99
                  refine lv_iconst (v := (0 : Int32)) hx hb dL_law_815 (by decide) ?_
                  exact False.elim hw
            · have hw := hw.2 c97
              refine lv_iconst (v := (0 : Int32)) hx hb dL_law_798 (by decide) ?_
              exact False.elim hw
          · have hw := hw.2 c94
            refine lv_iconst (v := (1 : Int32)) hx hb dL_law_779 (by decide) ?_
            refine lv_goto (tgt := 784) hx hb dL_law_780 (by decide) ?_
            have hPx := z_perm_P z_lm hP
            have hDx := z_perm_D z_lm hD
            have hPc := (z_app_P hPx).1
            have hDc := (z_app_D hDx).1
            have hFc := z_free hDx hS hA
            refine va_calli (va_runV (As := [.int (xs (x4 + (1 : Int32)).toNatClampNeg), .int (1 : Int32)]) (rest := []) ⟨hx, hb, hml, hown, hts⟩ (c_X4_ranked l D cs mq H.size M (xs (x4 + (1 : Int32)).toNatClampNeg) (1 : Int32) _ hw) (cwV 2 hts gL_law_X4_ranked rfl rfl rfl (by decide +kernel) ⟨Nat.le_of_ble_eq_true rfl, Nat.le_of_ble_eq_true rfl⟩) (PC_V hPc hDc hKK 0 4 rfl rfl) rfl rfl hl.1 rfl (lv_room (Nat.le_of_ble_eq_true rfl)) dL_law_784 ⟨by show _ ≤ 601024; omega, by show _ ≤ 7293034; omega⟩) hS (fun q _ h => hFc q h) hFc (fun r100 u100 t H locs ht hvm hw hB hz1 hk1 hS => ?_)
            obtain ⟨hP1, hD1⟩ := hB
            rw [ht] at hP1
            obtain ⟨hPx, hDx⟩ := z_join hPx hDx hk1 hFc hP1 hD1
            have hP : va_P D vwCl (w_Mod cs mq u100 ++ w_Out cs o u91_0 ++ w_Xo cs x tq h a u91_1 ++ w_Text cs tq u91_2 ++ w_Hist cs h a u91_3 ++ linesW cs a 18 u91_4) H := z_perm_P z_lmb hPx
            have hD : va_D (fun q : Nat => s.heap.size ≤ q) (w_Mod cs mq u100 ++ w_Out cs o u91_0 ++ w_Xo cs x tq h a u91_1 ++ w_Text cs tq u91_2 ++ w_Hist cs h a u91_3 ++ linesW cs a 18 u91_4) := z_perm_D z_lmb hDx
            refine lv_istore (lv' := [(6, .int r100), (5, .int r91), (0, .ref b), (1, .ref (x 0)), (2, .ref (mq 0)), (3, .ref o), (4, .int x4)]) hx hb dL_law_787 hl (by decide) rfl (fun ls hl => ?_)
            refine lv_aload_n hx hb dL_law_789 rfl (lv_at hl 4 rfl) ?_
            have hPx := z_perm_P z_lm hP
            have hDx := z_perm_D z_lm hD
            have hPc := (z_app_P hPx).1
            have hDc := (z_app_D hDx).1
            refine z_calli (va_runV (As := []) (rest := []) ⟨hx, hb, hml, hown, hts⟩ (c_X4_thrown l D cs mq H.size u100 _ hw) (cwV 0 hts gL_law_X4_thrown rfl rfl rfl (by decide +kernel) ⟨Nat.le_of_ble_eq_true rfl, Nat.le_of_ble_eq_true rfl⟩) (PC_V hPc hDc hKK 0 4 rfl rfl) rfl rfl hl.1 rfl (lv_room (Nat.le_of_ble_eq_true rfl)) dL_law_790 ⟨by show _ ≤ 601024; omega, by show _ ≤ 7293034; omega⟩) (fun r101 hw => ?_)
            refine lv_iload hx hb dL_law_793 (lv_at hl 1 rfl) ?_
            refine lv_icmp_eq (tgt := 800) hx hb dL_law_795 (by decide) (fun c102 => ?_) (fun c102 => ?_)
            · have hw := hw.1 c102
              refine lv_iload hx hb dL_law_800 (lv_at hl 1 rfl) ?_
              refine lv_if_ne (tgt := 817) hx hb dL_law_802 (by decide) (fun c103 => ?_) (fun c103 => ?_)
              · have hw := hw.2 c103
                refine lv_goto (tgt := 1991) hx hb dL_law_817 (by decide) ?_
                refine lv_iinc (v := x4 + 4) (lv' := [(4, .int (x4 + 4)), (6, .int r100), (5, .int r91), (0, .ref b), (1, .ref (x 0)), (2, .ref (mq 0)), (3, .ref o)]) hx hb dL_law_1991 hl (k := 6) rfl rfl (by decide) rfl (fun ls hl => ?_)
                refine lv_goto (tgt := 23) hx hb dL_law_1994 (by decide) ?_
                refine W.widen (k := 1000 + 3 * (j + 1)) (n := 20000 + 18 * (j + 1)) (by omega) (by omega) ?_
                exact ih _ _ _ _ _ _ _ (j + 1) (by omega) hw _ _ hP hD hS ls (lv_sub hl [3, 4, 5, 6, 0] rfl)
              · have hw := hw.1 c103
                refine lv_aload_n hx hb dL_law_805 rfl (lv_at hl 5 rfl) ?_
                refine lv_iconst (v := (0 : Int32)) hx hb dL_law_806 (by decide) ?_
                refine va_lald hx hb hK hP 9 3 rfl rfl (show vp_in (0 : Int32) 1 by unfold vp_in; decide) dL_law_807 ?_
                refine lv_iload hx hb dL_law_808 (lv_at hl 0 rfl) ?_
                refine lv_i2l (v := r100.toInt64) hx hb dL_law_810 rfl ?_
                refine W.lcmp hx hb dL_law_811 ?_
                refine lv_if_eq (tgt := 817) hx hb dL_law_812 (by decide) (fun c104 => ?_) (fun c104 => ?_)
                · have hw := hw.1 c104
                  refine lv_goto (tgt := 1991) hx hb dL_law_817 (by decide) ?_
                  refine lv_iinc (v := x4 + 4) (lv' := [(4, .int (x4 + 4)), (6, .int r100), (5, .int r91), (0, .ref b), (1, .ref (x 0)), (2, .ref (mq 0)), (3, .ref o)]) hx hb dL_law_1991 hl (k := 6) rfl rfl (by decide) rfl (fun ls hl => ?_)
                  refine lv_goto (tgt := 23) hx hb dL_law_1994 (by decide) ?_
                  refine W.widen (k := 1000 + 3 * (j + 1)) (n := 20000 + 18 * (j + 1)) (by omega) (by omega) ?_
                  exact ih _ _ _ _ _ _ _ (j + 1) (by omega) hw _ _ hP hD hS ls (lv_sub hl [3, 4, 5, 6, 0] rfl)
                · have hw := hw.2 c104
                  refine lv_iconst (v := (0 : Int32)) hx hb dL_law_815 (by decide) ?_
                  exact False.elim hw
            · have hw := hw.2 c102
              refine lv_iconst (v := (0 : Int32)) hx hb dL_law_798 (by decide) ?_
              exact False.elim hw
        · have hw := hw.2 c90
          refine lv_iconst (v := (1 : Int32)) hx hb dL_law_752 (by decide) ?_
          refine lv_goto (tgt := 757) hx hb dL_law_753 (by decide) ?_
          refine lv_aload_n hx hb dL_law_757 rfl (lv_at hl 3 rfl) ?_
          have hPx := z_perm_P z_lo hP
          have hDx := z_perm_D z_lo hD
          have hPc := (z_app_P hPx).1
          have hDc := (z_app_D hDx).1
          have hFc := z_free hDx hS hA
          refine vx_calli (vx_runSX (As := [.ref (x 0), .int (xs (x4 + (1 : Int32)).toNatClampNeg), .int (1 : Int32), .ref o]) (rest := []) ⟨hx, hb, hml, hown, hts⟩ (c_L_ranked l hfl D cs o x tq h a H.size sa f S tx hs Ls (xs (x4 + (1 : Int32)).toNatClampNeg) (1 : Int32) _ hw) (vx_cwSW 4 hts gL_law_L_ranked rfl rfl rfl (by decide +kernel) ⟨Nat.le_of_ble_eq_true rfl, Nat.le_of_ble_eq_true rfl⟩) (PX_S hPc hDc hKK hTW hTZ hS hFc) rfl rfl hl.1 rfl (lv_room (Nat.le_of_ble_eq_true rfl)) dL_law_758 ⟨by show _ ≤ 601024; omega, by show _ ≤ 7293034; omega⟩) hS (fun q _ h => hFc q h) hFc (fun q _ h => hFc q h) ?_ (fun r105 u105 t H locs ht hvm hw hB hz1 hk1 hS => ?_)
          · intro E ce q9 u105 t H locs ht hvm hpx hB hz1 hk1 hS hq9 hce hcl
            exact hpx.elim
          obtain ⟨u105_0, u105_1, u105_2, u105_3, u105_4⟩ := u105
          obtain ⟨hP1, hD1⟩ := hB
          rw [ht] at hP1
          obtain ⟨hPx, hDx⟩ := z_join hPx hDx hk1 hFc hP1 hD1
          have hP : va_P D vwCl (w_Mod cs mq M ++ w_Out cs o u105_0 ++ w_Xo cs x tq h a u105_1 ++ w_Text cs tq u105_2 ++ w_Hist cs h a u105_3 ++ linesW cs a 18 u105_4) H := z_perm_P z_lob hPx
          have hD : va_D (fun q : Nat => s.heap.size ≤ q) (w_Mod cs mq M ++ w_Out cs o u105_0 ++ w_Xo cs x tq h a u105_1 ++ w_Text cs tq u105_2 ++ w_Hist cs h a u105_3 ++ linesW cs a 18 u105_4) := z_perm_D z_lob hDx
          refine lv_istore (lv' := [(5, .int r105), (0, .ref b), (1, .ref (x 0)), (2, .ref (mq 0)), (3, .ref o), (4, .int x4)]) hx hb dL_law_761 hl (by decide) rfl (fun ls hl => ?_)
          refine lv_aload_n hx hb dL_law_763 rfl (lv_at hl 3 rfl) ?_
          refine lv_aload_n hx hb dL_law_764 rfl (lv_at hl 1 rfl) ?_
          refine lv_iload hx hb dL_law_765 (lv_at hl 5 rfl) ?_
          refine lv_iconst (v := (1 : Int32)) hx hb dL_law_767 (by decide) ?_
          refine lv_iadd hx hb dL_law_768 ?_
          obtain ⟨h106, hw⟩ := hw
          refine va_sld hx hb hX hbl hbA hS h106 dL_law_769 ?_
          refine lv_aload_n hx hb dL_law_770 rfl (lv_at hl 1 rfl) ?_
          refine lv_iload hx hb dL_law_771 (lv_at hl 5 rfl) ?_
          refine lv_iconst (v := (2 : Int32)) hx hb dL_law_773 (by decide) ?_
          refine lv_iadd hx hb dL_law_774 ?_
          obtain ⟨h107, hw⟩ := hw
          refine va_sld hx hb hX hbl hbA hS h107 dL_law_775 ?_
          refine lv_if_eq (tgt := 783) hx hb dL_law_776 (by decide) (fun c108 => ?_) (fun c108 => ?_)
          · have hw := hw.1 c108
            refine lv_iconst (v := (0 : Int32)) hx hb dL_law_783 (by decide) ?_
            have hPx := z_perm_P z_lm hP
            have hDx := z_perm_D z_lm hD
            have hPc := (z_app_P hPx).1
            have hDc := (z_app_D hDx).1
            have hFc := z_free hDx hS hA
            refine va_calli (va_runV (As := [.int (xs (x4 + (1 : Int32)).toNatClampNeg), .int (0 : Int32)]) (rest := []) ⟨hx, hb, hml, hown, hts⟩ (c_X4_ranked l D cs mq H.size M (xs (x4 + (1 : Int32)).toNatClampNeg) (0 : Int32) _ hw) (cwV 2 hts gL_law_X4_ranked rfl rfl rfl (by decide +kernel) ⟨Nat.le_of_ble_eq_true rfl, Nat.le_of_ble_eq_true rfl⟩) (PC_V hPc hDc hKK 0 4 rfl rfl) rfl rfl hl.1 rfl (lv_room (Nat.le_of_ble_eq_true rfl)) dL_law_784 ⟨by show _ ≤ 601024; omega, by show _ ≤ 7293034; omega⟩) hS (fun q _ h => hFc q h) hFc (fun r109 u109 t H locs ht hvm hw hB hz1 hk1 hS => ?_)
            obtain ⟨hP1, hD1⟩ := hB
            rw [ht] at hP1
            obtain ⟨hPx, hDx⟩ := z_join hPx hDx hk1 hFc hP1 hD1
            have hP : va_P D vwCl (w_Mod cs mq u109 ++ w_Out cs o u105_0 ++ w_Xo cs x tq h a u105_1 ++ w_Text cs tq u105_2 ++ w_Hist cs h a u105_3 ++ linesW cs a 18 u105_4) H := z_perm_P z_lmb hPx
            have hD : va_D (fun q : Nat => s.heap.size ≤ q) (w_Mod cs mq u109 ++ w_Out cs o u105_0 ++ w_Xo cs x tq h a u105_1 ++ w_Text cs tq u105_2 ++ w_Hist cs h a u105_3 ++ linesW cs a 18 u105_4) := z_perm_D z_lmb hDx
            refine lv_istore (lv' := [(6, .int r109), (5, .int r105), (0, .ref b), (1, .ref (x 0)), (2, .ref (mq 0)), (3, .ref o), (4, .int x4)]) hx hb dL_law_787 hl (by decide) rfl (fun ls hl => ?_)
            refine lv_aload_n hx hb dL_law_789 rfl (lv_at hl 4 rfl) ?_
            have hPx := z_perm_P z_lm hP
            have hDx := z_perm_D z_lm hD
            have hPc := (z_app_P hPx).1
            have hDc := (z_app_D hDx).1
            refine z_calli (va_runV (As := []) (rest := []) ⟨hx, hb, hml, hown, hts⟩ (c_X4_thrown l D cs mq H.size u109 _ hw) (cwV 0 hts gL_law_X4_thrown rfl rfl rfl (by decide +kernel) ⟨Nat.le_of_ble_eq_true rfl, Nat.le_of_ble_eq_true rfl⟩) (PC_V hPc hDc hKK 0 4 rfl rfl) rfl rfl hl.1 rfl (lv_room (Nat.le_of_ble_eq_true rfl)) dL_law_790 ⟨by show _ ≤ 601024; omega, by show _ ≤ 7293034; omega⟩) (fun r110 hw => ?_)
            refine lv_iload hx hb dL_law_793 (lv_at hl 1 rfl) ?_
            refine lv_icmp_eq (tgt := 800) hx hb dL_law_795 (by decide) (fun c111 => ?_) (fun c111 => ?_)
            · have hw := hw.1 c111
              refine lv_iload hx hb dL_law_800 (lv_at hl 1 rfl) ?_
              refine lv_if_ne (tgt := 817) hx hb dL_law_802 (by decide) (fun c112 => ?_) (fun c112 => ?_)
              · have hw := hw.2 c112
                refine lv_goto (tgt := 1991) hx hb dL_law_817 (by decide) ?_
                refine lv_iinc (v := x4 + 4) (lv' := [(4, .int (x4 + 4)), (6, .int r109), (5, .int r105), (0, .ref b), (1, .ref (x 0)), (2, .ref (mq 0)), (3, .ref o)]) hx hb dL_law_1991 hl (k := 6) rfl rfl (by decide) rfl (fun ls hl => ?_)
                refine lv_goto (tgt := 23) hx hb dL_law_1994 (by decide) ?_
                refine W.widen (k := 1000 + 3 * (j + 1)) (n := 20000 + 18 * (j + 1)) (by omega) (by omega) ?_
                exact ih _ _ _ _ _ _ _ (j + 1) (by omega) hw _ _ hP hD hS ls (lv_sub hl [3, 4, 5, 6, 0] rfl)
              · have hw := hw.1 c112
                refine lv_aload_n hx hb dL_law_805 rfl (lv_at hl 5 rfl) ?_
                refine lv_iconst (v := (0 : Int32)) hx hb dL_law_806 (by decide) ?_
                refine va_lald hx hb hK hP 9 3 rfl rfl (show vp_in (0 : Int32) 1 by unfold vp_in; decide) dL_law_807 ?_
                refine lv_iload hx hb dL_law_808 (lv_at hl 0 rfl) ?_
                refine lv_i2l (v := r109.toInt64) hx hb dL_law_810 rfl ?_
                refine W.lcmp hx hb dL_law_811 ?_
                refine lv_if_eq (tgt := 817) hx hb dL_law_812 (by decide) (fun c113 => ?_) (fun c113 => ?_)
                · have hw := hw.1 c113
                  refine lv_goto (tgt := 1991) hx hb dL_law_817 (by decide) ?_
                  refine lv_iinc (v := x4 + 4) (lv' := [(4, .int (x4 + 4)), (6, .int r109), (5, .int r105), (0, .ref b), (1, .ref (x 0)), (2, .ref (mq 0)), (3, .ref o)]) hx hb dL_law_1991 hl (k := 6) rfl rfl (by decide) rfl (fun ls hl => ?_)
                  refine lv_goto (tgt := 23) hx hb dL_law_1994 (by decide) ?_
                  refine W.widen (k := 1000 + 3 * (j + 1)) (n := 20000 + 18 * (j + 1)) (by omega) (by omega) ?_
                  exact ih _ _ _ _ _ _ _ (j + 1) (by omega) hw _ _ hP hD hS ls (lv_sub hl [3, 4, 5, 6, 0] rfl)
                · have hw := hw.2 c113
                  refine lv_iconst (v := (0 : Int32)) hx hb dL_law_815 (by decide) ?_
                  exact False.elim hw
            · have hw := hw.2 c111
              refine lv_iconst (v := (0 : Int32)) hx hb dL_law_798 (by decide) ?_
              exact False.elim hw
          · have hw := hw.2 c108
            refine lv_iconst (v := (1 : Int32)) hx hb dL_law_779 (by decide) ?_
            refine lv_goto (tgt := 784) hx hb dL_law_780 (by decide) ?_
            have hPx := z_perm_P z_lm hP
            have hDx := z_perm_D z_lm hD
            have hPc := (z_app_P hPx).1
            have hDc := (z_app_D hDx).1
            have hFc := z_free hDx hS hA
            refine va_calli (va_runV (As := [.int (xs (x4 + (1 : Int32)).toNatClampNeg), .int (1 : Int32)]) (rest := []) ⟨hx, hb, hml, hown, hts⟩ (c_X4_ranked l D cs mq H.size M (xs (x4 + (1 : Int32)).toNatClampNeg) (1 : Int32) _ hw) (cwV 2 hts gL_law_X4_ranked rfl rfl rfl (by decide +kernel) ⟨Nat.le_of_ble_eq_true rfl, Nat.le_of_ble_eq_true rfl⟩) (PC_V hPc hDc hKK 0 4 rfl rfl) rfl rfl hl.1 rfl (lv_room (Nat.le_of_ble_eq_true rfl)) dL_law_784 ⟨by show _ ≤ 601024; omega, by show _ ≤ 7293034; omega⟩) hS (fun q _ h => hFc q h) hFc (fun r114 u114 t H locs ht hvm hw hB hz1 hk1 hS => ?_)
            obtain ⟨hP1, hD1⟩ := hB
            rw [ht] at hP1
            obtain ⟨hPx, hDx⟩ := z_join hPx hDx hk1 hFc hP1 hD1
            have hP : va_P D vwCl (w_Mod cs mq u114 ++ w_Out cs o u105_0 ++ w_Xo cs x tq h a u105_1 ++ w_Text cs tq u105_2 ++ w_Hist cs h a u105_3 ++ linesW cs a 18 u105_4) H := z_perm_P z_lmb hPx
            have hD : va_D (fun q : Nat => s.heap.size ≤ q) (w_Mod cs mq u114 ++ w_Out cs o u105_0 ++ w_Xo cs x tq h a u105_1 ++ w_Text cs tq u105_2 ++ w_Hist cs h a u105_3 ++ linesW cs a 18 u105_4) := z_perm_D z_lmb hDx
            refine lv_istore (lv' := [(6, .int r114), (5, .int r105), (0, .ref b), (1, .ref (x 0)), (2, .ref (mq 0)), (3, .ref o), (4, .int x4)]) hx hb dL_law_787 hl (by decide) rfl (fun ls hl => ?_)
            refine lv_aload_n hx hb dL_law_789 rfl (lv_at hl 4 rfl) ?_
            have hPx := z_perm_P z_lm hP
            have hDx := z_perm_D z_lm hD
            have hPc := (z_app_P hPx).1
            have hDc := (z_app_D hDx).1
            refine z_calli (va_runV (As := []) (rest := []) ⟨hx, hb, hml, hown, hts⟩ (c_X4_thrown l D cs mq H.size u114 _ hw) (cwV 0 hts gL_law_X4_thrown rfl rfl rfl (by decide +kernel) ⟨Nat.le_of_ble_eq_true rfl, Nat.le_of_ble_eq_true rfl⟩) (PC_V hPc hDc hKK 0 4 rfl rfl) rfl rfl hl.1 rfl (lv_room (Nat.le_of_ble_eq_true rfl)) dL_law_790 ⟨by show _ ≤ 601024; omega, by show _ ≤ 7293034; omega⟩) (fun r115 hw => ?_)
            refine lv_iload hx hb dL_law_793 (lv_at hl 1 rfl) ?_
            refine lv_icmp_eq (tgt := 800) hx hb dL_law_795 (by decide) (fun c116 => ?_) (fun c116 => ?_)
            · have hw := hw.1 c116
              refine lv_iload hx hb dL_law_800 (lv_at hl 1 rfl) ?_
              refine lv_if_ne (tgt := 817) hx hb dL_law_802 (by decide) (fun c117 => ?_) (fun c117 => ?_)
              · have hw := hw.2 c117
                refine lv_goto (tgt := 1991) hx hb dL_law_817 (by decide) ?_
                refine lv_iinc (v := x4 + 4) (lv' := [(4, .int (x4 + 4)), (6, .int r114), (5, .int r105), (0, .ref b), (1, .ref (x 0)), (2, .ref (mq 0)), (3, .ref o)]) hx hb dL_law_1991 hl (k := 6) rfl rfl (by decide) rfl (fun ls hl => ?_)
                refine lv_goto (tgt := 23) hx hb dL_law_1994 (by decide) ?_
                refine W.widen (k := 1000 + 3 * (j + 1)) (n := 20000 + 18 * (j + 1)) (by omega) (by omega) ?_
                exact ih _ _ _ _ _ _ _ (j + 1) (by omega) hw _ _ hP hD hS ls (lv_sub hl [3, 4, 5, 6, 0] rfl)
              · have hw := hw.1 c117
                refine lv_aload_n hx hb dL_law_805 rfl (lv_at hl 5 rfl) ?_
                refine lv_iconst (v := (0 : Int32)) hx hb dL_law_806 (by decide) ?_
                refine va_lald hx hb hK hP 9 3 rfl rfl (show vp_in (0 : Int32) 1 by unfold vp_in; decide) dL_law_807 ?_
                refine lv_iload hx hb dL_law_808 (lv_at hl 0 rfl) ?_
                refine lv_i2l (v := r114.toInt64) hx hb dL_law_810 rfl ?_
                refine W.lcmp hx hb dL_law_811 ?_
                refine lv_if_eq (tgt := 817) hx hb dL_law_812 (by decide) (fun c118 => ?_) (fun c118 => ?_)
                · have hw := hw.1 c118
                  refine lv_goto (tgt := 1991) hx hb dL_law_817 (by decide) ?_
                  refine lv_iinc (v := x4 + 4) (lv' := [(4, .int (x4 + 4)), (6, .int r114), (5, .int r105), (0, .ref b), (1, .ref (x 0)), (2, .ref (mq 0)), (3, .ref o)]) hx hb dL_law_1991 hl (k := 6) rfl rfl (by decide) rfl (fun ls hl => ?_)
                  refine lv_goto (tgt := 23) hx hb dL_law_1994 (by decide) ?_
                  refine W.widen (k := 1000 + 3 * (j + 1)) (n := 20000 + 18 * (j + 1)) (by omega) (by omega) ?_
                  exact ih _ _ _ _ _ _ _ (j + 1) (by omega) hw _ _ hP hD hS ls (lv_sub hl [3, 4, 5, 6, 0] rfl)
                · have hw := hw.2 c118
                  refine lv_iconst (v := (0 : Int32)) hx hb dL_law_815 (by decide) ?_
                  exact False.elim hw
            · have hw := hw.2 c116
              refine lv_iconst (v := (0 : Int32)) hx hb dL_law_798 (by decide) ?_
              exact False.elim hw
      have hw := hw.2 c3_11
      by_cases c3_12 : ((xs x4.toNatClampNeg) &&& (31 : Int32)) = 12
      · have hw := hw.1 c3_12
        refine lv_tableIn (off := 781) (tgt := 820) hx hb dL_law_39 (by rw [c3_12]; decide) (by rw [c3_12]; decide) (by rw [c3_12]; rfl) (by decide) ?_
        refine lv_aload_n hx hb dL_law_820 rfl (lv_at hl 1 rfl) ?_
        refine lv_aload_n hx hb dL_law_821 rfl (lv_at hl 0 rfl) ?_
        refine lv_iload hx hb dL_law_822 (lv_at hl 4 rfl) ?_
        refine lv_iconst (v := (1 : Int32)) hx hb dL_law_824 (by decide) ?_
        refine lv_iadd hx hb dL_law_825 ?_
        obtain ⟨h119, hw⟩ := hw
        refine va_sld hx hb hX hbl hbA hS h119 dL_law_826 ?_
        refine lv_aload_n hx hb dL_law_827 rfl (lv_at hl 0 rfl) ?_
        refine lv_iload hx hb dL_law_828 (lv_at hl 4 rfl) ?_
        refine lv_iconst (v := (2 : Int32)) hx hb dL_law_830 (by decide) ?_
        refine lv_iadd hx hb dL_law_831 ?_
        obtain ⟨h120, hw⟩ := hw
        refine va_sld hx hb hX hbl hbA hS h120 dL_law_832 ?_
        refine lv_aload_n hx hb dL_law_833 rfl (lv_at hl 3 rfl) ?_
        have hPx := z_perm_P z_lo hP
        have hDx := z_perm_D z_lo hD
        have hPc := (z_app_P hPx).1
        have hDc := (z_app_D hDx).1
        have hFc := z_free hDx hS hA
        refine vx_calli (vx_runSX (As := [.ref (x 0), .int (xs (x4 + (1 : Int32)).toNatClampNeg), .int (xs (x4 + (2 : Int32)).toNatClampNeg), .ref o]) (rest := []) ⟨hx, hb, hml, hown, hts⟩ (c_L_add l hfl D cs o x tq h a H.size sa f S tx hs Ls (xs (x4 + (1 : Int32)).toNatClampNeg) (xs (x4 + (2 : Int32)).toNatClampNeg) _ hw) (vx_cwSW 4 hts gL_law_L_add rfl rfl rfl (by decide +kernel) ⟨Nat.le_of_ble_eq_true rfl, Nat.le_of_ble_eq_true rfl⟩) (PX_S hPc hDc hKK hTW hTZ hS hFc) rfl rfl hl.1 rfl (lv_room (Nat.le_of_ble_eq_true rfl)) dL_law_834 ⟨by show _ ≤ 601024; omega, by show _ ≤ 7293034; omega⟩) hS (fun q _ h => hFc q h) hFc (fun q _ h => hFc q h) ?_ (fun r121 u121 t H locs ht hvm hw hB hz1 hk1 hS => ?_)
        · intro E ce q9 u121 t H locs ht hvm hpx hB hz1 hk1 hS hq9 hce hcl
          exact hpx.elim
        obtain ⟨u121_0, u121_1, u121_2, u121_3, u121_4⟩ := u121
        obtain ⟨hP1, hD1⟩ := hB
        rw [ht] at hP1
        obtain ⟨hPx, hDx⟩ := z_join hPx hDx hk1 hFc hP1 hD1
        have hP : va_P D vwCl (w_Mod cs mq M ++ w_Out cs o u121_0 ++ w_Xo cs x tq h a u121_1 ++ w_Text cs tq u121_2 ++ w_Hist cs h a u121_3 ++ linesW cs a 18 u121_4) H := z_perm_P z_lob hPx
        have hD : va_D (fun q : Nat => s.heap.size ≤ q) (w_Mod cs mq M ++ w_Out cs o u121_0 ++ w_Xo cs x tq h a u121_1 ++ w_Text cs tq u121_2 ++ w_Hist cs h a u121_3 ++ linesW cs a 18 u121_4) := z_perm_D z_lob hDx
        refine lv_istore (lv' := [(5, .int r121), (0, .ref b), (1, .ref (x 0)), (2, .ref (mq 0)), (3, .ref o), (4, .int x4)]) hx hb dL_law_837 hl (by decide) rfl (fun ls hl => ?_)
        refine lv_aload_n hx hb dL_law_839 rfl (lv_at hl 3 rfl) ?_
        refine lv_aload_n hx hb dL_law_840 rfl (lv_at hl 1 rfl) ?_
        refine lv_iload hx hb dL_law_841 (lv_at hl 5 rfl) ?_
        refine lv_iconst (v := (1 : Int32)) hx hb dL_law_843 (by decide) ?_
        refine lv_iadd hx hb dL_law_844 ?_
        obtain ⟨h122, hw⟩ := hw
        refine va_sld hx hb hX hbl hbA hS h122 dL_law_845 ?_
        refine lv_aload_n hx hb dL_law_846 rfl (lv_at hl 1 rfl) ?_
        refine lv_iload hx hb dL_law_847 (lv_at hl 5 rfl) ?_
        refine lv_iconst (v := (2 : Int32)) hx hb dL_law_849 (by decide) ?_
        refine lv_iadd hx hb dL_law_850 ?_
        obtain ⟨h123, hw⟩ := hw
        refine va_sld hx hb hX hbl hbA hS h123 dL_law_851 ?_
        have hPx := z_perm_P z_lm hP
        have hDx := z_perm_D z_lm hD
        have hPc := (z_app_P hPx).1
        have hDc := (z_app_D hDx).1
        have hFc := z_free hDx hS hA
        refine va_calli (va_runV (As := [.int (xs (x4 + (1 : Int32)).toNatClampNeg), .int (xs (x4 + (2 : Int32)).toNatClampNeg)]) (rest := []) ⟨hx, hb, hml, hown, hts⟩ (c_X4_add l D cs mq H.size M (xs (x4 + (1 : Int32)).toNatClampNeg) (xs (x4 + (2 : Int32)).toNatClampNeg) _ hw) (cwV 2 hts gL_law_X4_add rfl rfl rfl (by decide +kernel) ⟨Nat.le_of_ble_eq_true rfl, Nat.le_of_ble_eq_true rfl⟩) (PC_V hPc hDc hKK 0 4 rfl rfl) rfl rfl hl.1 rfl (lv_room (Nat.le_of_ble_eq_true rfl)) dL_law_852 ⟨by show _ ≤ 601024; omega, by show _ ≤ 7293034; omega⟩) hS (fun q _ h => hFc q h) hFc (fun r124 u124 t H locs ht hvm hw hB hz1 hk1 hS => ?_)
        obtain ⟨hP1, hD1⟩ := hB
        rw [ht] at hP1
        obtain ⟨hPx, hDx⟩ := z_join hPx hDx hk1 hFc hP1 hD1
        have hP : va_P D vwCl (w_Mod cs mq u124 ++ w_Out cs o u121_0 ++ w_Xo cs x tq h a u121_1 ++ w_Text cs tq u121_2 ++ w_Hist cs h a u121_3 ++ linesW cs a 18 u121_4) H := z_perm_P z_lmb hPx
        have hD : va_D (fun q : Nat => s.heap.size ≤ q) (w_Mod cs mq u124 ++ w_Out cs o u121_0 ++ w_Xo cs x tq h a u121_1 ++ w_Text cs tq u121_2 ++ w_Hist cs h a u121_3 ++ linesW cs a 18 u121_4) := z_perm_D z_lmb hDx
        refine lv_istore (lv' := [(6, .int r124), (5, .int r121), (0, .ref b), (1, .ref (x 0)), (2, .ref (mq 0)), (3, .ref o), (4, .int x4)]) hx hb dL_law_855 hl (by decide) rfl (fun ls hl => ?_)
        refine lv_aload_n hx hb dL_law_857 rfl (lv_at hl 4 rfl) ?_
        have hPx := z_perm_P z_lm hP
        have hDx := z_perm_D z_lm hD
        have hPc := (z_app_P hPx).1
        have hDc := (z_app_D hDx).1
        refine z_calli (va_runV (As := []) (rest := []) ⟨hx, hb, hml, hown, hts⟩ (c_X4_thrown l D cs mq H.size u124 _ hw) (cwV 0 hts gL_law_X4_thrown rfl rfl rfl (by decide +kernel) ⟨Nat.le_of_ble_eq_true rfl, Nat.le_of_ble_eq_true rfl⟩) (PC_V hPc hDc hKK 0 4 rfl rfl) rfl rfl hl.1 rfl (lv_room (Nat.le_of_ble_eq_true rfl)) dL_law_858 ⟨by show _ ≤ 601024; omega, by show _ ≤ 7293034; omega⟩) (fun r125 hw => ?_)
        refine lv_iload hx hb dL_law_861 (lv_at hl 1 rfl) ?_
        refine lv_icmp_eq (tgt := 868) hx hb dL_law_863 (by decide) (fun c126 => ?_) (fun c126 => ?_)
        · have hw := hw.1 c126
          refine lv_iload hx hb dL_law_868 (lv_at hl 1 rfl) ?_
          refine lv_if_ne (tgt := 885) hx hb dL_law_870 (by decide) (fun c127 => ?_) (fun c127 => ?_)
          · have hw := hw.2 c127
            refine lv_goto (tgt := 1991) hx hb dL_law_885 (by decide) ?_
            refine lv_iinc (v := x4 + 4) (lv' := [(4, .int (x4 + 4)), (6, .int r124), (5, .int r121), (0, .ref b), (1, .ref (x 0)), (2, .ref (mq 0)), (3, .ref o)]) hx hb dL_law_1991 hl (k := 6) rfl rfl (by decide) rfl (fun ls hl => ?_)
            refine lv_goto (tgt := 23) hx hb dL_law_1994 (by decide) ?_
            refine W.widen (k := 1000 + 3 * (j + 1)) (n := 20000 + 18 * (j + 1)) (by omega) (by omega) ?_
            exact ih _ _ _ _ _ _ _ (j + 1) (by omega) hw _ _ hP hD hS ls (lv_sub hl [3, 4, 5, 6, 0] rfl)
          · have hw := hw.1 c127
            refine lv_aload_n hx hb dL_law_873 rfl (lv_at hl 5 rfl) ?_
            refine lv_iconst (v := (0 : Int32)) hx hb dL_law_874 (by decide) ?_
            refine va_lald hx hb hK hP 9 3 rfl rfl (show vp_in (0 : Int32) 1 by unfold vp_in; decide) dL_law_875 ?_
            refine lv_iload hx hb dL_law_876 (lv_at hl 0 rfl) ?_
            refine lv_i2l (v := r124.toInt64) hx hb dL_law_878 rfl ?_
            refine W.lcmp hx hb dL_law_879 ?_
            refine lv_if_eq (tgt := 885) hx hb dL_law_880 (by decide) (fun c128 => ?_) (fun c128 => ?_)
            · have hw := hw.1 c128
              refine lv_goto (tgt := 1991) hx hb dL_law_885 (by decide) ?_
              refine lv_iinc (v := x4 + 4) (lv' := [(4, .int (x4 + 4)), (6, .int r124), (5, .int r121), (0, .ref b), (1, .ref (x 0)), (2, .ref (mq 0)), (3, .ref o)]) hx hb dL_law_1991 hl (k := 6) rfl rfl (by decide) rfl (fun ls hl => ?_)
              refine lv_goto (tgt := 23) hx hb dL_law_1994 (by decide) ?_
              refine W.widen (k := 1000 + 3 * (j + 1)) (n := 20000 + 18 * (j + 1)) (by omega) (by omega) ?_
              exact ih _ _ _ _ _ _ _ (j + 1) (by omega) hw _ _ hP hD hS ls (lv_sub hl [3, 4, 5, 6, 0] rfl)
            · have hw := hw.2 c128
              refine lv_iconst (v := (0 : Int32)) hx hb dL_law_883 (by decide) ?_
              exact False.elim hw
        · have hw := hw.2 c126
          refine lv_iconst (v := (0 : Int32)) hx hb dL_law_866 (by decide) ?_
          exact False.elim hw
      have hw := hw.2 c3_12
      by_cases c3_13 : ((xs x4.toNatClampNeg) &&& (31 : Int32)) = 13
      · have hw := hw.1 c3_13
        refine lv_tableIn (off := 849) (tgt := 888) hx hb dL_law_39 (by rw [c3_13]; decide) (by rw [c3_13]; decide) (by rw [c3_13]; rfl) (by decide) ?_
        refine lv_aload_n hx hb dL_law_888 rfl (lv_at hl 1 rfl) ?_
        refine lv_aload_n hx hb dL_law_889 rfl (lv_at hl 0 rfl) ?_
        refine lv_iload hx hb dL_law_890 (lv_at hl 4 rfl) ?_
        refine lv_iconst (v := (1 : Int32)) hx hb dL_law_892 (by decide) ?_
        refine lv_iadd hx hb dL_law_893 ?_
        obtain ⟨h129, hw⟩ := hw
        refine va_sld hx hb hX hbl hbA hS h129 dL_law_894 ?_
        refine lv_aload_n hx hb dL_law_895 rfl (lv_at hl 3 rfl) ?_
        have hPx := z_perm_P z_lo hP
        have hDx := z_perm_D z_lo hD
        have hPc := (z_app_P hPx).1
        have hDc := (z_app_D hDx).1
        have hFc := z_free hDx hS hA
        refine vx_calli (vx_runSX (As := [.ref (x 0), .int (xs (x4 + (1 : Int32)).toNatClampNeg), .ref o]) (rest := []) ⟨hx, hb, hml, hown, hts⟩ (c_L_draw l hfl D cs o x tq h a H.size sa f S tx hs Ls (xs (x4 + (1 : Int32)).toNatClampNeg) _ hw) (vx_cwSW 3 hts gL_law_L_draw rfl rfl rfl (by decide +kernel) ⟨Nat.le_of_ble_eq_true rfl, Nat.le_of_ble_eq_true rfl⟩) (PX_S hPc hDc hKK hTW hTZ hS hFc) rfl rfl hl.1 rfl (lv_room (Nat.le_of_ble_eq_true rfl)) dL_law_896 ⟨by show _ ≤ 601024; omega, by show _ ≤ 7293034; omega⟩) hS (fun q _ h => hFc q h) hFc (fun q _ h => hFc q h) ?_ (fun r130 u130 t H locs ht hvm hw hB hz1 hk1 hS => ?_)
        · intro E ce q9 u130 t H locs ht hvm hpx hB hz1 hk1 hS hq9 hce hcl
          exact hpx.elim
        obtain ⟨u130_0, u130_1, u130_2, u130_3, u130_4⟩ := u130
        obtain ⟨hP1, hD1⟩ := hB
        rw [ht] at hP1
        obtain ⟨hPx, hDx⟩ := z_join hPx hDx hk1 hFc hP1 hD1
        have hP : va_P D vwCl (w_Mod cs mq M ++ w_Out cs o u130_0 ++ w_Xo cs x tq h a u130_1 ++ w_Text cs tq u130_2 ++ w_Hist cs h a u130_3 ++ linesW cs a 18 u130_4) H := z_perm_P z_lob hPx
        have hD : va_D (fun q : Nat => s.heap.size ≤ q) (w_Mod cs mq M ++ w_Out cs o u130_0 ++ w_Xo cs x tq h a u130_1 ++ w_Text cs tq u130_2 ++ w_Hist cs h a u130_3 ++ linesW cs a 18 u130_4) := z_perm_D z_lob hDx
        refine lv_istore (lv' := [(5, .int r130), (0, .ref b), (1, .ref (x 0)), (2, .ref (mq 0)), (3, .ref o), (4, .int x4)]) hx hb dL_law_899 hl (by decide) rfl (fun ls hl => ?_)
        refine lv_aload_n hx hb dL_law_901 rfl (lv_at hl 3 rfl) ?_
        refine lv_aload_n hx hb dL_law_902 rfl (lv_at hl 1 rfl) ?_
        refine lv_iload hx hb dL_law_903 (lv_at hl 5 rfl) ?_
        refine lv_iconst (v := (1 : Int32)) hx hb dL_law_905 (by decide) ?_
        refine lv_iadd hx hb dL_law_906 ?_
        obtain ⟨h131, hw⟩ := hw
        refine va_sld hx hb hX hbl hbA hS h131 dL_law_907 ?_
        have hPx := z_perm_P z_lm hP
        have hDx := z_perm_D z_lm hD
        have hPc := (z_app_P hPx).1
        have hDc := (z_app_D hDx).1
        have hFc := z_free hDx hS hA
        refine va_calli (va_runV (As := [.int (xs (x4 + (1 : Int32)).toNatClampNeg)]) (rest := []) ⟨hx, hb, hml, hown, hts⟩ (c_X4_draw l D cs mq H.size M (xs (x4 + (1 : Int32)).toNatClampNeg) _ hw) (cwV 1 hts gL_law_X4_draw rfl rfl rfl (by decide +kernel) ⟨Nat.le_of_ble_eq_true rfl, Nat.le_of_ble_eq_true rfl⟩) (PC_V hPc hDc hKK 0 4 rfl rfl) rfl rfl hl.1 rfl (lv_room (Nat.le_of_ble_eq_true rfl)) dL_law_908 ⟨by show _ ≤ 601024; omega, by show _ ≤ 7293034; omega⟩) hS (fun q _ h => hFc q h) hFc (fun r132 u132 t H locs ht hvm hw hB hz1 hk1 hS => ?_)
        obtain ⟨hP1, hD1⟩ := hB
        rw [ht] at hP1
        obtain ⟨hPx, hDx⟩ := z_join hPx hDx hk1 hFc hP1 hD1
        have hP : va_P D vwCl (w_Mod cs mq u132 ++ w_Out cs o u130_0 ++ w_Xo cs x tq h a u130_1 ++ w_Text cs tq u130_2 ++ w_Hist cs h a u130_3 ++ linesW cs a 18 u130_4) H := z_perm_P z_lmb hPx
        have hD : va_D (fun q : Nat => s.heap.size ≤ q) (w_Mod cs mq u132 ++ w_Out cs o u130_0 ++ w_Xo cs x tq h a u130_1 ++ w_Text cs tq u130_2 ++ w_Hist cs h a u130_3 ++ linesW cs a 18 u130_4) := z_perm_D z_lmb hDx
        refine lv_istore (lv' := [(6, .int r132), (5, .int r130), (0, .ref b), (1, .ref (x 0)), (2, .ref (mq 0)), (3, .ref o), (4, .int x4)]) hx hb dL_law_911 hl (by decide) rfl (fun ls hl => ?_)
        refine lv_aload_n hx hb dL_law_913 rfl (lv_at hl 4 rfl) ?_
        have hPx := z_perm_P z_lm hP
        have hDx := z_perm_D z_lm hD
        have hPc := (z_app_P hPx).1
        have hDc := (z_app_D hDx).1
        refine z_calli (va_runV (As := []) (rest := []) ⟨hx, hb, hml, hown, hts⟩ (c_X4_thrown l D cs mq H.size u132 _ hw) (cwV 0 hts gL_law_X4_thrown rfl rfl rfl (by decide +kernel) ⟨Nat.le_of_ble_eq_true rfl, Nat.le_of_ble_eq_true rfl⟩) (PC_V hPc hDc hKK 0 4 rfl rfl) rfl rfl hl.1 rfl (lv_room (Nat.le_of_ble_eq_true rfl)) dL_law_914 ⟨by show _ ≤ 601024; omega, by show _ ≤ 7293034; omega⟩) (fun r133 hw => ?_)
        refine lv_iload hx hb dL_law_917 (lv_at hl 1 rfl) ?_
        refine lv_icmp_eq (tgt := 924) hx hb dL_law_919 (by decide) (fun c134 => ?_) (fun c134 => ?_)
        · have hw := hw.1 c134
          refine lv_iload hx hb dL_law_924 (lv_at hl 1 rfl) ?_
          refine lv_if_ne (tgt := 941) hx hb dL_law_926 (by decide) (fun c135 => ?_) (fun c135 => ?_)
          · have hw := hw.2 c135
            refine lv_goto (tgt := 1991) hx hb dL_law_941 (by decide) ?_
            refine lv_iinc (v := x4 + 4) (lv' := [(4, .int (x4 + 4)), (6, .int r132), (5, .int r130), (0, .ref b), (1, .ref (x 0)), (2, .ref (mq 0)), (3, .ref o)]) hx hb dL_law_1991 hl (k := 6) rfl rfl (by decide) rfl (fun ls hl => ?_)
            refine lv_goto (tgt := 23) hx hb dL_law_1994 (by decide) ?_
            refine W.widen (k := 1000 + 3 * (j + 1)) (n := 20000 + 18 * (j + 1)) (by omega) (by omega) ?_
            exact ih _ _ _ _ _ _ _ (j + 1) (by omega) hw _ _ hP hD hS ls (lv_sub hl [3, 4, 5, 6, 0] rfl)
          · have hw := hw.1 c135
            refine lv_aload_n hx hb dL_law_929 rfl (lv_at hl 5 rfl) ?_
            refine lv_iconst (v := (0 : Int32)) hx hb dL_law_930 (by decide) ?_
            refine va_lald hx hb hK hP 9 3 rfl rfl (show vp_in (0 : Int32) 1 by unfold vp_in; decide) dL_law_931 ?_
            refine lv_iload hx hb dL_law_932 (lv_at hl 0 rfl) ?_
            refine lv_i2l (v := r132.toInt64) hx hb dL_law_934 rfl ?_
            refine W.lcmp hx hb dL_law_935 ?_
            refine lv_if_eq (tgt := 941) hx hb dL_law_936 (by decide) (fun c136 => ?_) (fun c136 => ?_)
            · have hw := hw.1 c136
              refine lv_goto (tgt := 1991) hx hb dL_law_941 (by decide) ?_
              refine lv_iinc (v := x4 + 4) (lv' := [(4, .int (x4 + 4)), (6, .int r132), (5, .int r130), (0, .ref b), (1, .ref (x 0)), (2, .ref (mq 0)), (3, .ref o)]) hx hb dL_law_1991 hl (k := 6) rfl rfl (by decide) rfl (fun ls hl => ?_)
              refine lv_goto (tgt := 23) hx hb dL_law_1994 (by decide) ?_
              refine W.widen (k := 1000 + 3 * (j + 1)) (n := 20000 + 18 * (j + 1)) (by omega) (by omega) ?_
              exact ih _ _ _ _ _ _ _ (j + 1) (by omega) hw _ _ hP hD hS ls (lv_sub hl [3, 4, 5, 6, 0] rfl)
            · have hw := hw.2 c136
              refine lv_iconst (v := (0 : Int32)) hx hb dL_law_939 (by decide) ?_
              exact False.elim hw
        · have hw := hw.2 c134
          refine lv_iconst (v := (0 : Int32)) hx hb dL_law_922 (by decide) ?_
          exact False.elim hw
      have hw := hw.2 c3_13
      by_cases c3_14 : ((xs x4.toNatClampNeg) &&& (31 : Int32)) = 14
      · have hw := hw.1 c3_14
        refine lv_tableIn (off := 905) (tgt := 944) hx hb dL_law_39 (by rw [c3_14]; decide) (by rw [c3_14]; decide) (by rw [c3_14]; rfl) (by decide) ?_
        refine lv_aload_n hx hb dL_law_944 rfl (lv_at hl 1 rfl) ?_
        refine lv_aload_n hx hb dL_law_945 rfl (lv_at hl 0 rfl) ?_
        refine lv_iload hx hb dL_law_946 (lv_at hl 4 rfl) ?_
        refine lv_iconst (v := (1 : Int32)) hx hb dL_law_948 (by decide) ?_
        refine lv_iadd hx hb dL_law_949 ?_
        obtain ⟨h137, hw⟩ := hw
        refine va_sld hx hb hX hbl hbA hS h137 dL_law_950 ?_
        refine lv_aload_n hx hb dL_law_951 rfl (lv_at hl 3 rfl) ?_
        have hPx := z_perm_P z_lo hP
        have hDx := z_perm_D z_lo hD
        have hPc := (z_app_P hPx).1
        have hDc := (z_app_D hDx).1
        have hFc := z_free hDx hS hA
        refine vx_calli (vx_runSX (As := [.ref (x 0), .int (xs (x4 + (1 : Int32)).toNatClampNeg), .ref o]) (rest := []) ⟨hx, hb, hml, hown, hts⟩ (c_L_beats l hfl D cs o x tq h a H.size sa f S tx hs Ls (xs (x4 + (1 : Int32)).toNatClampNeg) _ hw) (vx_cwSW 3 hts gL_law_L_beats rfl rfl rfl (by decide +kernel) ⟨Nat.le_of_ble_eq_true rfl, Nat.le_of_ble_eq_true rfl⟩) (PX_S hPc hDc hKK hTW hTZ hS hFc) rfl rfl hl.1 rfl (lv_room (Nat.le_of_ble_eq_true rfl)) dL_law_952 ⟨by show _ ≤ 601024; omega, by show _ ≤ 7293034; omega⟩) hS (fun q _ h => hFc q h) hFc (fun q _ h => hFc q h) ?_ (fun r138 u138 t H locs ht hvm hw hB hz1 hk1 hS => ?_)
        · intro E ce q9 u138 t H locs ht hvm hpx hB hz1 hk1 hS hq9 hce hcl
          exact hpx.elim
        obtain ⟨u138_0, u138_1, u138_2, u138_3, u138_4⟩ := u138
        obtain ⟨hP1, hD1⟩ := hB
        rw [ht] at hP1
        obtain ⟨hPx, hDx⟩ := z_join hPx hDx hk1 hFc hP1 hD1
        have hP : va_P D vwCl (w_Mod cs mq M ++ w_Out cs o u138_0 ++ w_Xo cs x tq h a u138_1 ++ w_Text cs tq u138_2 ++ w_Hist cs h a u138_3 ++ linesW cs a 18 u138_4) H := z_perm_P z_lob hPx
        have hD : va_D (fun q : Nat => s.heap.size ≤ q) (w_Mod cs mq M ++ w_Out cs o u138_0 ++ w_Xo cs x tq h a u138_1 ++ w_Text cs tq u138_2 ++ w_Hist cs h a u138_3 ++ linesW cs a 18 u138_4) := z_perm_D z_lob hDx
        refine lv_istore (lv' := [(5, .int r138), (0, .ref b), (1, .ref (x 0)), (2, .ref (mq 0)), (3, .ref o), (4, .int x4)]) hx hb dL_law_955 hl (by decide) rfl (fun ls hl => ?_)
        refine lv_aload_n hx hb dL_law_957 rfl (lv_at hl 3 rfl) ?_
        refine lv_aload_n hx hb dL_law_958 rfl (lv_at hl 1 rfl) ?_
        refine lv_iload hx hb dL_law_959 (lv_at hl 5 rfl) ?_
        refine lv_iconst (v := (1 : Int32)) hx hb dL_law_961 (by decide) ?_
        refine lv_iadd hx hb dL_law_962 ?_
        obtain ⟨h139, hw⟩ := hw
        refine va_sld hx hb hX hbl hbA hS h139 dL_law_963 ?_
        have hPx := z_perm_P z_lm hP
        have hDx := z_perm_D z_lm hD
        have hPc := (z_app_P hPx).1
        have hDc := (z_app_D hDx).1
        have hFc := z_free hDx hS hA
        refine va_calli (va_runV (As := [.int (xs (x4 + (1 : Int32)).toNatClampNeg)]) (rest := []) ⟨hx, hb, hml, hown, hts⟩ (c_X4_beats l D cs mq H.size M (xs (x4 + (1 : Int32)).toNatClampNeg) _ hw) (cwV 1 hts gL_law_X4_beats rfl rfl rfl (by decide +kernel) ⟨Nat.le_of_ble_eq_true rfl, Nat.le_of_ble_eq_true rfl⟩) (PC_V hPc hDc hKK 0 4 rfl rfl) rfl rfl hl.1 rfl (lv_room (Nat.le_of_ble_eq_true rfl)) dL_law_964 ⟨by show _ ≤ 601024; omega, by show _ ≤ 7293034; omega⟩) hS (fun q _ h => hFc q h) hFc (fun r140 u140 t H locs ht hvm hw hB hz1 hk1 hS => ?_)
        obtain ⟨hP1, hD1⟩ := hB
        rw [ht] at hP1
        obtain ⟨hPx, hDx⟩ := z_join hPx hDx hk1 hFc hP1 hD1
        have hP : va_P D vwCl (w_Mod cs mq u140 ++ w_Out cs o u138_0 ++ w_Xo cs x tq h a u138_1 ++ w_Text cs tq u138_2 ++ w_Hist cs h a u138_3 ++ linesW cs a 18 u138_4) H := z_perm_P z_lmb hPx
        have hD : va_D (fun q : Nat => s.heap.size ≤ q) (w_Mod cs mq u140 ++ w_Out cs o u138_0 ++ w_Xo cs x tq h a u138_1 ++ w_Text cs tq u138_2 ++ w_Hist cs h a u138_3 ++ linesW cs a 18 u138_4) := z_perm_D z_lmb hDx
        refine lv_istore (lv' := [(6, .int r140), (5, .int r138), (0, .ref b), (1, .ref (x 0)), (2, .ref (mq 0)), (3, .ref o), (4, .int x4)]) hx hb dL_law_967 hl (by decide) rfl (fun ls hl => ?_)
        refine lv_aload_n hx hb dL_law_969 rfl (lv_at hl 4 rfl) ?_
        have hPx := z_perm_P z_lm hP
        have hDx := z_perm_D z_lm hD
        have hPc := (z_app_P hPx).1
        have hDc := (z_app_D hDx).1
        refine z_calli (va_runV (As := []) (rest := []) ⟨hx, hb, hml, hown, hts⟩ (c_X4_thrown l D cs mq H.size u140 _ hw) (cwV 0 hts gL_law_X4_thrown rfl rfl rfl (by decide +kernel) ⟨Nat.le_of_ble_eq_true rfl, Nat.le_of_ble_eq_true rfl⟩) (PC_V hPc hDc hKK 0 4 rfl rfl) rfl rfl hl.1 rfl (lv_room (Nat.le_of_ble_eq_true rfl)) dL_law_970 ⟨by show _ ≤ 601024; omega, by show _ ≤ 7293034; omega⟩) (fun r141 hw => ?_)
        refine lv_iload hx hb dL_law_973 (lv_at hl 1 rfl) ?_
        refine lv_icmp_eq (tgt := 980) hx hb dL_law_975 (by decide) (fun c142 => ?_) (fun c142 => ?_)
        · have hw := hw.1 c142
          refine lv_iload hx hb dL_law_980 (lv_at hl 1 rfl) ?_
          refine lv_if_ne (tgt := 997) hx hb dL_law_982 (by decide) (fun c143 => ?_) (fun c143 => ?_)
          · have hw := hw.2 c143
            refine lv_goto (tgt := 1991) hx hb dL_law_997 (by decide) ?_
            refine lv_iinc (v := x4 + 4) (lv' := [(4, .int (x4 + 4)), (6, .int r140), (5, .int r138), (0, .ref b), (1, .ref (x 0)), (2, .ref (mq 0)), (3, .ref o)]) hx hb dL_law_1991 hl (k := 6) rfl rfl (by decide) rfl (fun ls hl => ?_)
            refine lv_goto (tgt := 23) hx hb dL_law_1994 (by decide) ?_
            refine W.widen (k := 1000 + 3 * (j + 1)) (n := 20000 + 18 * (j + 1)) (by omega) (by omega) ?_
            exact ih _ _ _ _ _ _ _ (j + 1) (by omega) hw _ _ hP hD hS ls (lv_sub hl [3, 4, 5, 6, 0] rfl)
          · have hw := hw.1 c143
            refine lv_aload_n hx hb dL_law_985 rfl (lv_at hl 5 rfl) ?_
            refine lv_iconst (v := (0 : Int32)) hx hb dL_law_986 (by decide) ?_
            refine va_lald hx hb hK hP 9 3 rfl rfl (show vp_in (0 : Int32) 1 by unfold vp_in; decide) dL_law_987 ?_
            refine lv_iload hx hb dL_law_988 (lv_at hl 0 rfl) ?_
            refine lv_i2l (v := r140.toInt64) hx hb dL_law_990 rfl ?_
            refine W.lcmp hx hb dL_law_991 ?_
            refine lv_if_eq (tgt := 997) hx hb dL_law_992 (by decide) (fun c144 => ?_) (fun c144 => ?_)
            · have hw := hw.1 c144
              refine lv_goto (tgt := 1991) hx hb dL_law_997 (by decide) ?_
              refine lv_iinc (v := x4 + 4) (lv' := [(4, .int (x4 + 4)), (6, .int r140), (5, .int r138), (0, .ref b), (1, .ref (x 0)), (2, .ref (mq 0)), (3, .ref o)]) hx hb dL_law_1991 hl (k := 6) rfl rfl (by decide) rfl (fun ls hl => ?_)
              refine lv_goto (tgt := 23) hx hb dL_law_1994 (by decide) ?_
              refine W.widen (k := 1000 + 3 * (j + 1)) (n := 20000 + 18 * (j + 1)) (by omega) (by omega) ?_
              exact ih _ _ _ _ _ _ _ (j + 1) (by omega) hw _ _ hP hD hS ls (lv_sub hl [3, 4, 5, 6, 0] rfl)
            · have hw := hw.2 c144
              refine lv_iconst (v := (0 : Int32)) hx hb dL_law_995 (by decide) ?_
              exact False.elim hw
        · have hw := hw.2 c142
          refine lv_iconst (v := (0 : Int32)) hx hb dL_law_978 (by decide) ?_
          exact False.elim hw
      have hw := hw.2 c3_14
      by_cases c3_15 : ((xs x4.toNatClampNeg) &&& (31 : Int32)) = 15
      · have hw := hw.1 c3_15
        refine lv_tableIn (off := 961) (tgt := 1000) hx hb dL_law_39 (by rw [c3_15]; decide) (by rw [c3_15]; decide) (by rw [c3_15]; rfl) (by decide) ?_
        refine lv_aload_n hx hb dL_law_1000 rfl (lv_at hl 1 rfl) ?_
        refine lv_aload_n hx hb dL_law_1001 rfl (lv_at hl 0 rfl) ?_
        refine lv_iload hx hb dL_law_1002 (lv_at hl 4 rfl) ?_
        refine lv_iconst (v := (1 : Int32)) hx hb dL_law_1004 (by decide) ?_
        refine lv_iadd hx hb dL_law_1005 ?_
        obtain ⟨h145, hw⟩ := hw
        refine va_sld hx hb hX hbl hbA hS h145 dL_law_1006 ?_
        refine lv_aload_n hx hb dL_law_1007 rfl (lv_at hl 3 rfl) ?_
        have hPx := z_perm_P z_lo hP
        have hDx := z_perm_D z_lo hD
        have hPc := (z_app_P hPx).1
        have hDc := (z_app_D hDx).1
        have hFc := z_free hDx hS hA
        refine vx_calli (vx_runSX (As := [.ref (x 0), .int (xs (x4 + (1 : Int32)).toNatClampNeg), .ref o]) (rest := []) ⟨hx, hb, hml, hown, hts⟩ (c_L_setPace l hfl D cs o x tq h a H.size sa f S tx hs Ls (xs (x4 + (1 : Int32)).toNatClampNeg) _ hw) (vx_cwSW 3 hts gL_law_L_setPace rfl rfl rfl (by decide +kernel) ⟨Nat.le_of_ble_eq_true rfl, Nat.le_of_ble_eq_true rfl⟩) (PX_S hPc hDc hKK hTW hTZ hS hFc) rfl rfl hl.1 rfl (lv_room (Nat.le_of_ble_eq_true rfl)) dL_law_1008 ⟨by show _ ≤ 601024; omega, by show _ ≤ 7293034; omega⟩) hS (fun q _ h => hFc q h) hFc (fun q _ h => hFc q h) ?_ (fun r146 u146 t H locs ht hvm hw hB hz1 hk1 hS => ?_)
        · intro E ce q9 u146 t H locs ht hvm hpx hB hz1 hk1 hS hq9 hce hcl
          exact hpx.elim
        obtain ⟨u146_0, u146_1, u146_2, u146_3, u146_4⟩ := u146
        obtain ⟨hP1, hD1⟩ := hB
        rw [ht] at hP1
        obtain ⟨hPx, hDx⟩ := z_join hPx hDx hk1 hFc hP1 hD1
        have hP : va_P D vwCl (w_Mod cs mq M ++ w_Out cs o u146_0 ++ w_Xo cs x tq h a u146_1 ++ w_Text cs tq u146_2 ++ w_Hist cs h a u146_3 ++ linesW cs a 18 u146_4) H := z_perm_P z_lob hPx
        have hD : va_D (fun q : Nat => s.heap.size ≤ q) (w_Mod cs mq M ++ w_Out cs o u146_0 ++ w_Xo cs x tq h a u146_1 ++ w_Text cs tq u146_2 ++ w_Hist cs h a u146_3 ++ linesW cs a 18 u146_4) := z_perm_D z_lob hDx
        refine lv_istore (lv' := [(5, .int r146), (0, .ref b), (1, .ref (x 0)), (2, .ref (mq 0)), (3, .ref o), (4, .int x4)]) hx hb dL_law_1011 hl (by decide) rfl (fun ls hl => ?_)
        refine lv_aload_n hx hb dL_law_1013 rfl (lv_at hl 3 rfl) ?_
        refine lv_aload_n hx hb dL_law_1014 rfl (lv_at hl 1 rfl) ?_
        refine lv_iload hx hb dL_law_1015 (lv_at hl 5 rfl) ?_
        refine lv_iconst (v := (1 : Int32)) hx hb dL_law_1017 (by decide) ?_
        refine lv_iadd hx hb dL_law_1018 ?_
        obtain ⟨h147, hw⟩ := hw
        refine va_sld hx hb hX hbl hbA hS h147 dL_law_1019 ?_
        have hPx := z_perm_P z_lm hP
        have hDx := z_perm_D z_lm hD
        have hPc := (z_app_P hPx).1
        have hDc := (z_app_D hDx).1
        have hFc := z_free hDx hS hA
        refine va_calli (va_runV (As := [.int (xs (x4 + (1 : Int32)).toNatClampNeg)]) (rest := []) ⟨hx, hb, hml, hown, hts⟩ (c_X4_setPace l D cs mq H.size M (xs (x4 + (1 : Int32)).toNatClampNeg) _ hw) (cwV 1 hts gL_law_X4_setPace rfl rfl rfl (by decide +kernel) ⟨Nat.le_of_ble_eq_true rfl, Nat.le_of_ble_eq_true rfl⟩) (PC_V hPc hDc hKK 0 4 rfl rfl) rfl rfl hl.1 rfl (lv_room (Nat.le_of_ble_eq_true rfl)) dL_law_1020 ⟨by show _ ≤ 601024; omega, by show _ ≤ 7293034; omega⟩) hS (fun q _ h => hFc q h) hFc (fun r148 u148 t H locs ht hvm hw hB hz1 hk1 hS => ?_)
        obtain ⟨hP1, hD1⟩ := hB
        rw [ht] at hP1
        obtain ⟨hPx, hDx⟩ := z_join hPx hDx hk1 hFc hP1 hD1
        have hP : va_P D vwCl (w_Mod cs mq u148 ++ w_Out cs o u146_0 ++ w_Xo cs x tq h a u146_1 ++ w_Text cs tq u146_2 ++ w_Hist cs h a u146_3 ++ linesW cs a 18 u146_4) H := z_perm_P z_lmb hPx
        have hD : va_D (fun q : Nat => s.heap.size ≤ q) (w_Mod cs mq u148 ++ w_Out cs o u146_0 ++ w_Xo cs x tq h a u146_1 ++ w_Text cs tq u146_2 ++ w_Hist cs h a u146_3 ++ linesW cs a 18 u146_4) := z_perm_D z_lmb hDx
        refine lv_istore (lv' := [(6, .int r148), (5, .int r146), (0, .ref b), (1, .ref (x 0)), (2, .ref (mq 0)), (3, .ref o), (4, .int x4)]) hx hb dL_law_1023 hl (by decide) rfl (fun ls hl => ?_)
        refine lv_aload_n hx hb dL_law_1025 rfl (lv_at hl 4 rfl) ?_
        have hPx := z_perm_P z_lm hP
        have hDx := z_perm_D z_lm hD
        have hPc := (z_app_P hPx).1
        have hDc := (z_app_D hDx).1
        refine z_calli (va_runV (As := []) (rest := []) ⟨hx, hb, hml, hown, hts⟩ (c_X4_thrown l D cs mq H.size u148 _ hw) (cwV 0 hts gL_law_X4_thrown rfl rfl rfl (by decide +kernel) ⟨Nat.le_of_ble_eq_true rfl, Nat.le_of_ble_eq_true rfl⟩) (PC_V hPc hDc hKK 0 4 rfl rfl) rfl rfl hl.1 rfl (lv_room (Nat.le_of_ble_eq_true rfl)) dL_law_1026 ⟨by show _ ≤ 601024; omega, by show _ ≤ 7293034; omega⟩) (fun r149 hw => ?_)
        refine lv_iload hx hb dL_law_1029 (lv_at hl 1 rfl) ?_
        refine lv_icmp_eq (tgt := 1036) hx hb dL_law_1031 (by decide) (fun c150 => ?_) (fun c150 => ?_)
        · have hw := hw.1 c150
          refine lv_iload hx hb dL_law_1036 (lv_at hl 1 rfl) ?_
          refine lv_if_ne (tgt := 1053) hx hb dL_law_1038 (by decide) (fun c151 => ?_) (fun c151 => ?_)
          · have hw := hw.2 c151
            refine lv_goto (tgt := 1991) hx hb dL_law_1053 (by decide) ?_
            refine lv_iinc (v := x4 + 4) (lv' := [(4, .int (x4 + 4)), (6, .int r148), (5, .int r146), (0, .ref b), (1, .ref (x 0)), (2, .ref (mq 0)), (3, .ref o)]) hx hb dL_law_1991 hl (k := 6) rfl rfl (by decide) rfl (fun ls hl => ?_)
            refine lv_goto (tgt := 23) hx hb dL_law_1994 (by decide) ?_
            refine W.widen (k := 1000 + 3 * (j + 1)) (n := 20000 + 18 * (j + 1)) (by omega) (by omega) ?_
            exact ih _ _ _ _ _ _ _ (j + 1) (by omega) hw _ _ hP hD hS ls (lv_sub hl [3, 4, 5, 6, 0] rfl)
          · have hw := hw.1 c151
            refine lv_aload_n hx hb dL_law_1041 rfl (lv_at hl 5 rfl) ?_
            refine lv_iconst (v := (0 : Int32)) hx hb dL_law_1042 (by decide) ?_
            refine va_lald hx hb hK hP 9 3 rfl rfl (show vp_in (0 : Int32) 1 by unfold vp_in; decide) dL_law_1043 ?_
            refine lv_iload hx hb dL_law_1044 (lv_at hl 0 rfl) ?_
            refine lv_i2l (v := r148.toInt64) hx hb dL_law_1046 rfl ?_
            refine W.lcmp hx hb dL_law_1047 ?_
            refine lv_if_eq (tgt := 1053) hx hb dL_law_1048 (by decide) (fun c152 => ?_) (fun c152 => ?_)
            · have hw := hw.1 c152
              refine lv_goto (tgt := 1991) hx hb dL_law_1053 (by decide) ?_
              refine lv_iinc (v := x4 + 4) (lv' := [(4, .int (x4 + 4)), (6, .int r148), (5, .int r146), (0, .ref b), (1, .ref (x 0)), (2, .ref (mq 0)), (3, .ref o)]) hx hb dL_law_1991 hl (k := 6) rfl rfl (by decide) rfl (fun ls hl => ?_)
              refine lv_goto (tgt := 23) hx hb dL_law_1994 (by decide) ?_
              refine W.widen (k := 1000 + 3 * (j + 1)) (n := 20000 + 18 * (j + 1)) (by omega) (by omega) ?_
              exact ih _ _ _ _ _ _ _ (j + 1) (by omega) hw _ _ hP hD hS ls (lv_sub hl [3, 4, 5, 6, 0] rfl)
            · have hw := hw.2 c152
              refine lv_iconst (v := (0 : Int32)) hx hb dL_law_1051 (by decide) ?_
              exact False.elim hw
        · have hw := hw.2 c150
          refine lv_iconst (v := (0 : Int32)) hx hb dL_law_1034 (by decide) ?_
          exact False.elim hw
      have hw := hw.2 c3_15
      by_cases c3_16 : ((xs x4.toNatClampNeg) &&& (31 : Int32)) = 16
      · have hw := hw.1 c3_16
        refine lv_tableIn (off := 1017) (tgt := 1056) hx hb dL_law_39 (by rw [c3_16]; decide) (by rw [c3_16]; decide) (by rw [c3_16]; rfl) (by decide) ?_
        refine lv_aload_n hx hb dL_law_1056 rfl (lv_at hl 1 rfl) ?_
        refine lv_aload_n hx hb dL_law_1057 rfl (lv_at hl 0 rfl) ?_
        refine lv_iload hx hb dL_law_1058 (lv_at hl 4 rfl) ?_
        refine lv_iconst (v := (1 : Int32)) hx hb dL_law_1060 (by decide) ?_
        refine lv_iadd hx hb dL_law_1061 ?_
        obtain ⟨h153, hw⟩ := hw
        refine va_sld hx hb hX hbl hbA hS h153 dL_law_1062 ?_
        refine lv_aload_n hx hb dL_law_1063 rfl (lv_at hl 0 rfl) ?_
        refine lv_iload hx hb dL_law_1064 (lv_at hl 4 rfl) ?_
        refine lv_iconst (v := (2 : Int32)) hx hb dL_law_1066 (by decide) ?_
        refine lv_iadd hx hb dL_law_1067 ?_
        obtain ⟨h154, hw⟩ := hw
        refine va_sld hx hb hX hbl hbA hS h154 dL_law_1068 ?_
        refine lv_if_eq (tgt := 1076) hx hb dL_law_1069 (by decide) (fun c155 => ?_) (fun c155 => ?_)
        · have hw := hw.1 c155
          refine lv_iconst (v := (0 : Int32)) hx hb dL_law_1076 (by decide) ?_
          refine lv_aload_n hx hb dL_law_1077 rfl (lv_at hl 3 rfl) ?_
          have hPx := z_perm_P z_lo hP
          have hDx := z_perm_D z_lo hD
          have hPc := (z_app_P hPx).1
          have hDc := (z_app_D hDx).1
          have hFc := z_free hDx hS hA
          refine vx_calli (vx_runSX (As := [.ref (x 0), .int (xs (x4 + (1 : Int32)).toNatClampNeg), .int (0 : Int32), .ref o]) (rest := []) ⟨hx, hb, hml, hown, hts⟩ (c_L_link l hfl D cs o x tq h a H.size sa f S tx hs Ls (xs (x4 + (1 : Int32)).toNatClampNeg) (0 : Int32) _ hw) (vx_cwSW 4 hts gL_law_L_link rfl rfl rfl (by decide +kernel) ⟨Nat.le_of_ble_eq_true rfl, Nat.le_of_ble_eq_true rfl⟩) (PX_S hPc hDc hKK hTW hTZ hS hFc) rfl rfl hl.1 rfl (lv_room (Nat.le_of_ble_eq_true rfl)) dL_law_1078 ⟨by show _ ≤ 601024; omega, by show _ ≤ 7293034; omega⟩) hS (fun q _ h => hFc q h) hFc (fun q _ h => hFc q h) ?_ (fun r156 u156 t H locs ht hvm hw hB hz1 hk1 hS => ?_)
          · intro E ce q9 u156 t H locs ht hvm hpx hB hz1 hk1 hS hq9 hce hcl
            exact hpx.elim
          obtain ⟨u156_0, u156_1, u156_2, u156_3, u156_4⟩ := u156
          obtain ⟨hP1, hD1⟩ := hB
          rw [ht] at hP1
          obtain ⟨hPx, hDx⟩ := z_join hPx hDx hk1 hFc hP1 hD1
          have hP : va_P D vwCl (w_Mod cs mq M ++ w_Out cs o u156_0 ++ w_Xo cs x tq h a u156_1 ++ w_Text cs tq u156_2 ++ w_Hist cs h a u156_3 ++ linesW cs a 18 u156_4) H := z_perm_P z_lob hPx
          have hD : va_D (fun q : Nat => s.heap.size ≤ q) (w_Mod cs mq M ++ w_Out cs o u156_0 ++ w_Xo cs x tq h a u156_1 ++ w_Text cs tq u156_2 ++ w_Hist cs h a u156_3 ++ linesW cs a 18 u156_4) := z_perm_D z_lob hDx
          refine lv_istore (lv' := [(5, .int r156), (0, .ref b), (1, .ref (x 0)), (2, .ref (mq 0)), (3, .ref o), (4, .int x4)]) hx hb dL_law_1081 hl (by decide) rfl (fun ls hl => ?_)
          refine lv_aload_n hx hb dL_law_1083 rfl (lv_at hl 3 rfl) ?_
          refine lv_aload_n hx hb dL_law_1084 rfl (lv_at hl 1 rfl) ?_
          refine lv_iload hx hb dL_law_1085 (lv_at hl 5 rfl) ?_
          refine lv_iconst (v := (1 : Int32)) hx hb dL_law_1087 (by decide) ?_
          refine lv_iadd hx hb dL_law_1088 ?_
          obtain ⟨h157, hw⟩ := hw
          refine va_sld hx hb hX hbl hbA hS h157 dL_law_1089 ?_
          refine lv_aload_n hx hb dL_law_1090 rfl (lv_at hl 1 rfl) ?_
          refine lv_iload hx hb dL_law_1091 (lv_at hl 5 rfl) ?_
          refine lv_iconst (v := (2 : Int32)) hx hb dL_law_1093 (by decide) ?_
          refine lv_iadd hx hb dL_law_1094 ?_
          obtain ⟨h158, hw⟩ := hw
          refine va_sld hx hb hX hbl hbA hS h158 dL_law_1095 ?_
          refine lv_if_eq (tgt := 1103) hx hb dL_law_1096 (by decide) (fun c159 => ?_) (fun c159 => ?_)
          · have hw := hw.1 c159
            refine lv_iconst (v := (0 : Int32)) hx hb dL_law_1103 (by decide) ?_
            have hPx := z_perm_P z_lm hP
            have hDx := z_perm_D z_lm hD
            have hPc := (z_app_P hPx).1
            have hDc := (z_app_D hDx).1
            have hFc := z_free hDx hS hA
            refine va_calli (va_runV (As := [.int (xs (x4 + (1 : Int32)).toNatClampNeg), .int (0 : Int32)]) (rest := []) ⟨hx, hb, hml, hown, hts⟩ (c_X4_link l D cs mq H.size M (xs (x4 + (1 : Int32)).toNatClampNeg) (0 : Int32) _ hw) (cwV 2 hts gL_law_X4_link rfl rfl rfl (by decide +kernel) ⟨Nat.le_of_ble_eq_true rfl, Nat.le_of_ble_eq_true rfl⟩) (PC_V hPc hDc hKK 0 4 rfl rfl) rfl rfl hl.1 rfl (lv_room (Nat.le_of_ble_eq_true rfl)) dL_law_1104 ⟨by show _ ≤ 601024; omega, by show _ ≤ 7293034; omega⟩) hS (fun q _ h => hFc q h) hFc (fun r160 u160 t H locs ht hvm hw hB hz1 hk1 hS => ?_)
            obtain ⟨hP1, hD1⟩ := hB
            rw [ht] at hP1
            obtain ⟨hPx, hDx⟩ := z_join hPx hDx hk1 hFc hP1 hD1
            have hP : va_P D vwCl (w_Mod cs mq u160 ++ w_Out cs o u156_0 ++ w_Xo cs x tq h a u156_1 ++ w_Text cs tq u156_2 ++ w_Hist cs h a u156_3 ++ linesW cs a 18 u156_4) H := z_perm_P z_lmb hPx
            have hD : va_D (fun q : Nat => s.heap.size ≤ q) (w_Mod cs mq u160 ++ w_Out cs o u156_0 ++ w_Xo cs x tq h a u156_1 ++ w_Text cs tq u156_2 ++ w_Hist cs h a u156_3 ++ linesW cs a 18 u156_4) := z_perm_D z_lmb hDx
            refine lv_istore (lv' := [(6, .int r160), (5, .int r156), (0, .ref b), (1, .ref (x 0)), (2, .ref (mq 0)), (3, .ref o), (4, .int x4)]) hx hb dL_law_1107 hl (by decide) rfl (fun ls hl => ?_)
            refine lv_aload_n hx hb dL_law_1109 rfl (lv_at hl 4 rfl) ?_
            have hPx := z_perm_P z_lm hP
            have hDx := z_perm_D z_lm hD
            have hPc := (z_app_P hPx).1
            have hDc := (z_app_D hDx).1
            refine z_calli (va_runV (As := []) (rest := []) ⟨hx, hb, hml, hown, hts⟩ (c_X4_thrown l D cs mq H.size u160 _ hw) (cwV 0 hts gL_law_X4_thrown rfl rfl rfl (by decide +kernel) ⟨Nat.le_of_ble_eq_true rfl, Nat.le_of_ble_eq_true rfl⟩) (PC_V hPc hDc hKK 0 4 rfl rfl) rfl rfl hl.1 rfl (lv_room (Nat.le_of_ble_eq_true rfl)) dL_law_1110 ⟨by show _ ≤ 601024; omega, by show _ ≤ 7293034; omega⟩) (fun r161 hw => ?_)
            refine lv_iload hx hb dL_law_1113 (lv_at hl 1 rfl) ?_
            refine lv_icmp_eq (tgt := 1120) hx hb dL_law_1115 (by decide) (fun c162 => ?_) (fun c162 => ?_)
            · have hw := hw.1 c162
              refine lv_iload hx hb dL_law_1120 (lv_at hl 1 rfl) ?_
              refine lv_if_ne (tgt := 1137) hx hb dL_law_1122 (by decide) (fun c163 => ?_) (fun c163 => ?_)
              · have hw := hw.2 c163
                refine lv_goto (tgt := 1991) hx hb dL_law_1137 (by decide) ?_
                refine lv_iinc (v := x4 + 4) (lv' := [(4, .int (x4 + 4)), (6, .int r160), (5, .int r156), (0, .ref b), (1, .ref (x 0)), (2, .ref (mq 0)), (3, .ref o)]) hx hb dL_law_1991 hl (k := 6) rfl rfl (by decide) rfl (fun ls hl => ?_)
                refine lv_goto (tgt := 23) hx hb dL_law_1994 (by decide) ?_
                refine W.widen (k := 1000 + 3 * (j + 1)) (n := 20000 + 18 * (j + 1)) (by omega) (by omega) ?_
                exact ih _ _ _ _ _ _ _ (j + 1) (by omega) hw _ _ hP hD hS ls (lv_sub hl [3, 4, 5, 6, 0] rfl)
              · have hw := hw.1 c163
                refine lv_aload_n hx hb dL_law_1125 rfl (lv_at hl 5 rfl) ?_
                refine lv_iconst (v := (0 : Int32)) hx hb dL_law_1126 (by decide) ?_
                refine va_lald hx hb hK hP 9 3 rfl rfl (show vp_in (0 : Int32) 1 by unfold vp_in; decide) dL_law_1127 ?_
                refine lv_iload hx hb dL_law_1128 (lv_at hl 0 rfl) ?_
                refine lv_i2l (v := r160.toInt64) hx hb dL_law_1130 rfl ?_
                refine W.lcmp hx hb dL_law_1131 ?_
                refine lv_if_eq (tgt := 1137) hx hb dL_law_1132 (by decide) (fun c164 => ?_) (fun c164 => ?_)
                · have hw := hw.1 c164
                  refine lv_goto (tgt := 1991) hx hb dL_law_1137 (by decide) ?_
                  refine lv_iinc (v := x4 + 4) (lv' := [(4, .int (x4 + 4)), (6, .int r160), (5, .int r156), (0, .ref b), (1, .ref (x 0)), (2, .ref (mq 0)), (3, .ref o)]) hx hb dL_law_1991 hl (k := 6) rfl rfl (by decide) rfl (fun ls hl => ?_)
                  refine lv_goto (tgt := 23) hx hb dL_law_1994 (by decide) ?_
                  refine W.widen (k := 1000 + 3 * (j + 1)) (n := 20000 + 18 * (j + 1)) (by omega) (by omega) ?_
                  exact ih _ _ _ _ _ _ _ (j + 1) (by omega) hw _ _ hP hD hS ls (lv_sub hl [3, 4, 5, 6, 0] rfl)
                · have hw := hw.2 c164
                  refine lv_iconst (v := (0 : Int32)) hx hb dL_law_1135 (by decide) ?_
                  exact False.elim hw
            · have hw := hw.2 c162
              refine lv_iconst (v := (0 : Int32)) hx hb dL_law_1118 (by decide) ?_
              exact False.elim hw
          · have hw := hw.2 c159
            refine lv_iconst (v := (1 : Int32)) hx hb dL_law_1099 (by decide) ?_
            refine lv_goto (tgt := 1104) hx hb dL_law_1100 (by decide) ?_
            have hPx := z_perm_P z_lm hP
            have hDx := z_perm_D z_lm hD
            have hPc := (z_app_P hPx).1
            have hDc := (z_app_D hDx).1
            have hFc := z_free hDx hS hA
            refine va_calli (va_runV (As := [.int (xs (x4 + (1 : Int32)).toNatClampNeg), .int (1 : Int32)]) (rest := []) ⟨hx, hb, hml, hown, hts⟩ (c_X4_link l D cs mq H.size M (xs (x4 + (1 : Int32)).toNatClampNeg) (1 : Int32) _ hw) (cwV 2 hts gL_law_X4_link rfl rfl rfl (by decide +kernel) ⟨Nat.le_of_ble_eq_true rfl, Nat.le_of_ble_eq_true rfl⟩) (PC_V hPc hDc hKK 0 4 rfl rfl) rfl rfl hl.1 rfl (lv_room (Nat.le_of_ble_eq_true rfl)) dL_law_1104 ⟨by show _ ≤ 601024; omega, by show _ ≤ 7293034; omega⟩) hS (fun q _ h => hFc q h) hFc (fun r165 u165 t H locs ht hvm hw hB hz1 hk1 hS => ?_)
            obtain ⟨hP1, hD1⟩ := hB
            rw [ht] at hP1
            obtain ⟨hPx, hDx⟩ := z_join hPx hDx hk1 hFc hP1 hD1
            have hP : va_P D vwCl (w_Mod cs mq u165 ++ w_Out cs o u156_0 ++ w_Xo cs x tq h a u156_1 ++ w_Text cs tq u156_2 ++ w_Hist cs h a u156_3 ++ linesW cs a 18 u156_4) H := z_perm_P z_lmb hPx
            have hD : va_D (fun q : Nat => s.heap.size ≤ q) (w_Mod cs mq u165 ++ w_Out cs o u156_0 ++ w_Xo cs x tq h a u156_1 ++ w_Text cs tq u156_2 ++ w_Hist cs h a u156_3 ++ linesW cs a 18 u156_4) := z_perm_D z_lmb hDx
            refine lv_istore (lv' := [(6, .int r165), (5, .int r156), (0, .ref b), (1, .ref (x 0)), (2, .ref (mq 0)), (3, .ref o), (4, .int x4)]) hx hb dL_law_1107 hl (by decide) rfl (fun ls hl => ?_)
            refine lv_aload_n hx hb dL_law_1109 rfl (lv_at hl 4 rfl) ?_
            have hPx := z_perm_P z_lm hP
            have hDx := z_perm_D z_lm hD
            have hPc := (z_app_P hPx).1
            have hDc := (z_app_D hDx).1
            refine z_calli (va_runV (As := []) (rest := []) ⟨hx, hb, hml, hown, hts⟩ (c_X4_thrown l D cs mq H.size u165 _ hw) (cwV 0 hts gL_law_X4_thrown rfl rfl rfl (by decide +kernel) ⟨Nat.le_of_ble_eq_true rfl, Nat.le_of_ble_eq_true rfl⟩) (PC_V hPc hDc hKK 0 4 rfl rfl) rfl rfl hl.1 rfl (lv_room (Nat.le_of_ble_eq_true rfl)) dL_law_1110 ⟨by show _ ≤ 601024; omega, by show _ ≤ 7293034; omega⟩) (fun r166 hw => ?_)
            refine lv_iload hx hb dL_law_1113 (lv_at hl 1 rfl) ?_
            refine lv_icmp_eq (tgt := 1120) hx hb dL_law_1115 (by decide) (fun c167 => ?_) (fun c167 => ?_)
            · have hw := hw.1 c167
              refine lv_iload hx hb dL_law_1120 (lv_at hl 1 rfl) ?_
              refine lv_if_ne (tgt := 1137) hx hb dL_law_1122 (by decide) (fun c168 => ?_) (fun c168 => ?_)
              · have hw := hw.2 c168
                refine lv_goto (tgt := 1991) hx hb dL_law_1137 (by decide) ?_
                refine lv_iinc (v := x4 + 4) (lv' := [(4, .int (x4 + 4)), (6, .int r165), (5, .int r156), (0, .ref b), (1, .ref (x 0)), (2, .ref (mq 0)), (3, .ref o)]) hx hb dL_law_1991 hl (k := 6) rfl rfl (by decide) rfl (fun ls hl => ?_)
                refine lv_goto (tgt := 23) hx hb dL_law_1994 (by decide) ?_
                refine W.widen (k := 1000 + 3 * (j + 1)) (n := 20000 + 18 * (j + 1)) (by omega) (by omega) ?_
                exact ih _ _ _ _ _ _ _ (j + 1) (by omega) hw _ _ hP hD hS ls (lv_sub hl [3, 4, 5, 6, 0] rfl)
              · have hw := hw.1 c168
                refine lv_aload_n hx hb dL_law_1125 rfl (lv_at hl 5 rfl) ?_
                refine lv_iconst (v := (0 : Int32)) hx hb dL_law_1126 (by decide) ?_
                refine va_lald hx hb hK hP 9 3 rfl rfl (show vp_in (0 : Int32) 1 by unfold vp_in; decide) dL_law_1127 ?_
                refine lv_iload hx hb dL_law_1128 (lv_at hl 0 rfl) ?_
                refine lv_i2l (v := r165.toInt64) hx hb dL_law_1130 rfl ?_
                refine W.lcmp hx hb dL_law_1131 ?_
                refine lv_if_eq (tgt := 1137) hx hb dL_law_1132 (by decide) (fun c169 => ?_) (fun c169 => ?_)
                · have hw := hw.1 c169
                  refine lv_goto (tgt := 1991) hx hb dL_law_1137 (by decide) ?_
                  refine lv_iinc (v := x4 + 4) (lv' := [(4, .int (x4 + 4)), (6, .int r165), (5, .int r156), (0, .ref b), (1, .ref (x 0)), (2, .ref (mq 0)), (3, .ref o)]) hx hb dL_law_1991 hl (k := 6) rfl rfl (by decide) rfl (fun ls hl => ?_)
                  refine lv_goto (tgt := 23) hx hb dL_law_1994 (by decide) ?_
                  refine W.widen (k := 1000 + 3 * (j + 1)) (n := 20000 + 18 * (j + 1)) (by omega) (by omega) ?_
                  exact ih _ _ _ _ _ _ _ (j + 1) (by omega) hw _ _ hP hD hS ls (lv_sub hl [3, 4, 5, 6, 0] rfl)
                · have hw := hw.2 c169
                  refine lv_iconst (v := (0 : Int32)) hx hb dL_law_1135 (by decide) ?_
                  exact False.elim hw
            · have hw := hw.2 c167
              refine lv_iconst (v := (0 : Int32)) hx hb dL_law_1118 (by decide) ?_
              exact False.elim hw
        · have hw := hw.2 c155
          refine lv_iconst (v := (1 : Int32)) hx hb dL_law_1072 (by decide) ?_
          refine lv_goto (tgt := 1077) hx hb dL_law_1073 (by decide) ?_
          refine lv_aload_n hx hb dL_law_1077 rfl (lv_at hl 3 rfl) ?_
          have hPx := z_perm_P z_lo hP
          have hDx := z_perm_D z_lo hD
          have hPc := (z_app_P hPx).1
          have hDc := (z_app_D hDx).1
          have hFc := z_free hDx hS hA
          refine vx_calli (vx_runSX (As := [.ref (x 0), .int (xs (x4 + (1 : Int32)).toNatClampNeg), .int (1 : Int32), .ref o]) (rest := []) ⟨hx, hb, hml, hown, hts⟩ (c_L_link l hfl D cs o x tq h a H.size sa f S tx hs Ls (xs (x4 + (1 : Int32)).toNatClampNeg) (1 : Int32) _ hw) (vx_cwSW 4 hts gL_law_L_link rfl rfl rfl (by decide +kernel) ⟨Nat.le_of_ble_eq_true rfl, Nat.le_of_ble_eq_true rfl⟩) (PX_S hPc hDc hKK hTW hTZ hS hFc) rfl rfl hl.1 rfl (lv_room (Nat.le_of_ble_eq_true rfl)) dL_law_1078 ⟨by show _ ≤ 601024; omega, by show _ ≤ 7293034; omega⟩) hS (fun q _ h => hFc q h) hFc (fun q _ h => hFc q h) ?_ (fun r170 u170 t H locs ht hvm hw hB hz1 hk1 hS => ?_)
          · intro E ce q9 u170 t H locs ht hvm hpx hB hz1 hk1 hS hq9 hce hcl
            exact hpx.elim
          obtain ⟨u170_0, u170_1, u170_2, u170_3, u170_4⟩ := u170
          obtain ⟨hP1, hD1⟩ := hB
          rw [ht] at hP1
          obtain ⟨hPx, hDx⟩ := z_join hPx hDx hk1 hFc hP1 hD1
          have hP : va_P D vwCl (w_Mod cs mq M ++ w_Out cs o u170_0 ++ w_Xo cs x tq h a u170_1 ++ w_Text cs tq u170_2 ++ w_Hist cs h a u170_3 ++ linesW cs a 18 u170_4) H := z_perm_P z_lob hPx
          have hD : va_D (fun q : Nat => s.heap.size ≤ q) (w_Mod cs mq M ++ w_Out cs o u170_0 ++ w_Xo cs x tq h a u170_1 ++ w_Text cs tq u170_2 ++ w_Hist cs h a u170_3 ++ linesW cs a 18 u170_4) := z_perm_D z_lob hDx
          refine lv_istore (lv' := [(5, .int r170), (0, .ref b), (1, .ref (x 0)), (2, .ref (mq 0)), (3, .ref o), (4, .int x4)]) hx hb dL_law_1081 hl (by decide) rfl (fun ls hl => ?_)
          refine lv_aload_n hx hb dL_law_1083 rfl (lv_at hl 3 rfl) ?_
          refine lv_aload_n hx hb dL_law_1084 rfl (lv_at hl 1 rfl) ?_
          refine lv_iload hx hb dL_law_1085 (lv_at hl 5 rfl) ?_
          refine lv_iconst (v := (1 : Int32)) hx hb dL_law_1087 (by decide) ?_
          refine lv_iadd hx hb dL_law_1088 ?_
          obtain ⟨h171, hw⟩ := hw
          refine va_sld hx hb hX hbl hbA hS h171 dL_law_1089 ?_
          refine lv_aload_n hx hb dL_law_1090 rfl (lv_at hl 1 rfl) ?_
          refine lv_iload hx hb dL_law_1091 (lv_at hl 5 rfl) ?_
          refine lv_iconst (v := (2 : Int32)) hx hb dL_law_1093 (by decide) ?_
          refine lv_iadd hx hb dL_law_1094 ?_
          obtain ⟨h172, hw⟩ := hw
          refine va_sld hx hb hX hbl hbA hS h172 dL_law_1095 ?_
          refine lv_if_eq (tgt := 1103) hx hb dL_law_1096 (by decide) (fun c173 => ?_) (fun c173 => ?_)
          · have hw := hw.1 c173
            refine lv_iconst (v := (0 : Int32)) hx hb dL_law_1103 (by decide) ?_
            have hPx := z_perm_P z_lm hP
            have hDx := z_perm_D z_lm hD
            have hPc := (z_app_P hPx).1
            have hDc := (z_app_D hDx).1
            have hFc := z_free hDx hS hA
            refine va_calli (va_runV (As := [.int (xs (x4 + (1 : Int32)).toNatClampNeg), .int (0 : Int32)]) (rest := []) ⟨hx, hb, hml, hown, hts⟩ (c_X4_link l D cs mq H.size M (xs (x4 + (1 : Int32)).toNatClampNeg) (0 : Int32) _ hw) (cwV 2 hts gL_law_X4_link rfl rfl rfl (by decide +kernel) ⟨Nat.le_of_ble_eq_true rfl, Nat.le_of_ble_eq_true rfl⟩) (PC_V hPc hDc hKK 0 4 rfl rfl) rfl rfl hl.1 rfl (lv_room (Nat.le_of_ble_eq_true rfl)) dL_law_1104 ⟨by show _ ≤ 601024; omega, by show _ ≤ 7293034; omega⟩) hS (fun q _ h => hFc q h) hFc (fun r174 u174 t H locs ht hvm hw hB hz1 hk1 hS => ?_)
            obtain ⟨hP1, hD1⟩ := hB
            rw [ht] at hP1
            obtain ⟨hPx, hDx⟩ := z_join hPx hDx hk1 hFc hP1 hD1
            have hP : va_P D vwCl (w_Mod cs mq u174 ++ w_Out cs o u170_0 ++ w_Xo cs x tq h a u170_1 ++ w_Text cs tq u170_2 ++ w_Hist cs h a u170_3 ++ linesW cs a 18 u170_4) H := z_perm_P z_lmb hPx
            have hD : va_D (fun q : Nat => s.heap.size ≤ q) (w_Mod cs mq u174 ++ w_Out cs o u170_0 ++ w_Xo cs x tq h a u170_1 ++ w_Text cs tq u170_2 ++ w_Hist cs h a u170_3 ++ linesW cs a 18 u170_4) := z_perm_D z_lmb hDx
            refine lv_istore (lv' := [(6, .int r174), (5, .int r170), (0, .ref b), (1, .ref (x 0)), (2, .ref (mq 0)), (3, .ref o), (4, .int x4)]) hx hb dL_law_1107 hl (by decide) rfl (fun ls hl => ?_)
            refine lv_aload_n hx hb dL_law_1109 rfl (lv_at hl 4 rfl) ?_
            have hPx := z_perm_P z_lm hP
            have hDx := z_perm_D z_lm hD
            have hPc := (z_app_P hPx).1
            have hDc := (z_app_D hDx).1
            refine z_calli (va_runV (As := []) (rest := []) ⟨hx, hb, hml, hown, hts⟩ (c_X4_thrown l D cs mq H.size u174 _ hw) (cwV 0 hts gL_law_X4_thrown rfl rfl rfl (by decide +kernel) ⟨Nat.le_of_ble_eq_true rfl, Nat.le_of_ble_eq_true rfl⟩) (PC_V hPc hDc hKK 0 4 rfl rfl) rfl rfl hl.1 rfl (lv_room (Nat.le_of_ble_eq_true rfl)) dL_law_1110 ⟨by show _ ≤ 601024; omega, by show _ ≤ 7293034; omega⟩) (fun r175 hw => ?_)
            refine lv_iload hx hb dL_law_1113 (lv_at hl 1 rfl) ?_
            refine lv_icmp_eq (tgt := 1120) hx hb dL_law_1115 (by decide) (fun c176 => ?_) (fun c176 => ?_)
            · have hw := hw.1 c176
              refine lv_iload hx hb dL_law_1120 (lv_at hl 1 rfl) ?_
              refine lv_if_ne (tgt := 1137) hx hb dL_law_1122 (by decide) (fun c177 => ?_) (fun c177 => ?_)
              · have hw := hw.2 c177
                refine lv_goto (tgt := 1991) hx hb dL_law_1137 (by decide) ?_
                refine lv_iinc (v := x4 + 4) (lv' := [(4, .int (x4 + 4)), (6, .int r174), (5, .int r170), (0, .ref b), (1, .ref (x 0)), (2, .ref (mq 0)), (3, .ref o)]) hx hb dL_law_1991 hl (k := 6) rfl rfl (by decide) rfl (fun ls hl => ?_)
                refine lv_goto (tgt := 23) hx hb dL_law_1994 (by decide) ?_
                refine W.widen (k := 1000 + 3 * (j + 1)) (n := 20000 + 18 * (j + 1)) (by omega) (by omega) ?_
                exact ih _ _ _ _ _ _ _ (j + 1) (by omega) hw _ _ hP hD hS ls (lv_sub hl [3, 4, 5, 6, 0] rfl)
              · have hw := hw.1 c177
                refine lv_aload_n hx hb dL_law_1125 rfl (lv_at hl 5 rfl) ?_
                refine lv_iconst (v := (0 : Int32)) hx hb dL_law_1126 (by decide) ?_
                refine va_lald hx hb hK hP 9 3 rfl rfl (show vp_in (0 : Int32) 1 by unfold vp_in; decide) dL_law_1127 ?_
                refine lv_iload hx hb dL_law_1128 (lv_at hl 0 rfl) ?_
                refine lv_i2l (v := r174.toInt64) hx hb dL_law_1130 rfl ?_
                refine W.lcmp hx hb dL_law_1131 ?_
                refine lv_if_eq (tgt := 1137) hx hb dL_law_1132 (by decide) (fun c178 => ?_) (fun c178 => ?_)
                · have hw := hw.1 c178
                  refine lv_goto (tgt := 1991) hx hb dL_law_1137 (by decide) ?_
                  refine lv_iinc (v := x4 + 4) (lv' := [(4, .int (x4 + 4)), (6, .int r174), (5, .int r170), (0, .ref b), (1, .ref (x 0)), (2, .ref (mq 0)), (3, .ref o)]) hx hb dL_law_1991 hl (k := 6) rfl rfl (by decide) rfl (fun ls hl => ?_)
                  refine lv_goto (tgt := 23) hx hb dL_law_1994 (by decide) ?_
                  refine W.widen (k := 1000 + 3 * (j + 1)) (n := 20000 + 18 * (j + 1)) (by omega) (by omega) ?_
                  exact ih _ _ _ _ _ _ _ (j + 1) (by omega) hw _ _ hP hD hS ls (lv_sub hl [3, 4, 5, 6, 0] rfl)
                · have hw := hw.2 c178
                  refine lv_iconst (v := (0 : Int32)) hx hb dL_law_1135 (by decide) ?_
                  exact False.elim hw
            · have hw := hw.2 c176
              refine lv_iconst (v := (0 : Int32)) hx hb dL_law_1118 (by decide) ?_
              exact False.elim hw
          · have hw := hw.2 c173
            refine lv_iconst (v := (1 : Int32)) hx hb dL_law_1099 (by decide) ?_
            refine lv_goto (tgt := 1104) hx hb dL_law_1100 (by decide) ?_
            have hPx := z_perm_P z_lm hP
            have hDx := z_perm_D z_lm hD
            have hPc := (z_app_P hPx).1
            have hDc := (z_app_D hDx).1
            have hFc := z_free hDx hS hA
            refine va_calli (va_runV (As := [.int (xs (x4 + (1 : Int32)).toNatClampNeg), .int (1 : Int32)]) (rest := []) ⟨hx, hb, hml, hown, hts⟩ (c_X4_link l D cs mq H.size M (xs (x4 + (1 : Int32)).toNatClampNeg) (1 : Int32) _ hw) (cwV 2 hts gL_law_X4_link rfl rfl rfl (by decide +kernel) ⟨Nat.le_of_ble_eq_true rfl, Nat.le_of_ble_eq_true rfl⟩) (PC_V hPc hDc hKK 0 4 rfl rfl) rfl rfl hl.1 rfl (lv_room (Nat.le_of_ble_eq_true rfl)) dL_law_1104 ⟨by show _ ≤ 601024; omega, by show _ ≤ 7293034; omega⟩) hS (fun q _ h => hFc q h) hFc (fun r179 u179 t H locs ht hvm hw hB hz1 hk1 hS => ?_)
            obtain ⟨hP1, hD1⟩ := hB
            rw [ht] at hP1
            obtain ⟨hPx, hDx⟩ := z_join hPx hDx hk1 hFc hP1 hD1
            have hP : va_P D vwCl (w_Mod cs mq u179 ++ w_Out cs o u170_0 ++ w_Xo cs x tq h a u170_1 ++ w_Text cs tq u170_2 ++ w_Hist cs h a u170_3 ++ linesW cs a 18 u170_4) H := z_perm_P z_lmb hPx
            have hD : va_D (fun q : Nat => s.heap.size ≤ q) (w_Mod cs mq u179 ++ w_Out cs o u170_0 ++ w_Xo cs x tq h a u170_1 ++ w_Text cs tq u170_2 ++ w_Hist cs h a u170_3 ++ linesW cs a 18 u170_4) := z_perm_D z_lmb hDx
            refine lv_istore (lv' := [(6, .int r179), (5, .int r170), (0, .ref b), (1, .ref (x 0)), (2, .ref (mq 0)), (3, .ref o), (4, .int x4)]) hx hb dL_law_1107 hl (by decide) rfl (fun ls hl => ?_)
            refine lv_aload_n hx hb dL_law_1109 rfl (lv_at hl 4 rfl) ?_
            have hPx := z_perm_P z_lm hP
            have hDx := z_perm_D z_lm hD
            have hPc := (z_app_P hPx).1
            have hDc := (z_app_D hDx).1
            refine z_calli (va_runV (As := []) (rest := []) ⟨hx, hb, hml, hown, hts⟩ (c_X4_thrown l D cs mq H.size u179 _ hw) (cwV 0 hts gL_law_X4_thrown rfl rfl rfl (by decide +kernel) ⟨Nat.le_of_ble_eq_true rfl, Nat.le_of_ble_eq_true rfl⟩) (PC_V hPc hDc hKK 0 4 rfl rfl) rfl rfl hl.1 rfl (lv_room (Nat.le_of_ble_eq_true rfl)) dL_law_1110 ⟨by show _ ≤ 601024; omega, by show _ ≤ 7293034; omega⟩) (fun r180 hw => ?_)
            refine lv_iload hx hb dL_law_1113 (lv_at hl 1 rfl) ?_
            refine lv_icmp_eq (tgt := 1120) hx hb dL_law_1115 (by decide) (fun c181 => ?_) (fun c181 => ?_)
            · have hw := hw.1 c181
              refine lv_iload hx hb dL_law_1120 (lv_at hl 1 rfl) ?_
              refine lv_if_ne (tgt := 1137) hx hb dL_law_1122 (by decide) (fun c182 => ?_) (fun c182 => ?_)
              · have hw := hw.2 c182
                refine lv_goto (tgt := 1991) hx hb dL_law_1137 (by decide) ?_
                refine lv_iinc (v := x4 + 4) (lv' := [(4, .int (x4 + 4)), (6, .int r179), (5, .int r170), (0, .ref b), (1, .ref (x 0)), (2, .ref (mq 0)), (3, .ref o)]) hx hb dL_law_1991 hl (k := 6) rfl rfl (by decide) rfl (fun ls hl => ?_)
                refine lv_goto (tgt := 23) hx hb dL_law_1994 (by decide) ?_
                refine W.widen (k := 1000 + 3 * (j + 1)) (n := 20000 + 18 * (j + 1)) (by omega) (by omega) ?_
                exact ih _ _ _ _ _ _ _ (j + 1) (by omega) hw _ _ hP hD hS ls (lv_sub hl [3, 4, 5, 6, 0] rfl)
              · have hw := hw.1 c182
                refine lv_aload_n hx hb dL_law_1125 rfl (lv_at hl 5 rfl) ?_
                refine lv_iconst (v := (0 : Int32)) hx hb dL_law_1126 (by decide) ?_
                refine va_lald hx hb hK hP 9 3 rfl rfl (show vp_in (0 : Int32) 1 by unfold vp_in; decide) dL_law_1127 ?_
                refine lv_iload hx hb dL_law_1128 (lv_at hl 0 rfl) ?_
                refine lv_i2l (v := r179.toInt64) hx hb dL_law_1130 rfl ?_
                refine W.lcmp hx hb dL_law_1131 ?_
                refine lv_if_eq (tgt := 1137) hx hb dL_law_1132 (by decide) (fun c183 => ?_) (fun c183 => ?_)
                · have hw := hw.1 c183
                  refine lv_goto (tgt := 1991) hx hb dL_law_1137 (by decide) ?_
                  refine lv_iinc (v := x4 + 4) (lv' := [(4, .int (x4 + 4)), (6, .int r179), (5, .int r170), (0, .ref b), (1, .ref (x 0)), (2, .ref (mq 0)), (3, .ref o)]) hx hb dL_law_1991 hl (k := 6) rfl rfl (by decide) rfl (fun ls hl => ?_)
                  refine lv_goto (tgt := 23) hx hb dL_law_1994 (by decide) ?_
                  refine W.widen (k := 1000 + 3 * (j + 1)) (n := 20000 + 18 * (j + 1)) (by omega) (by omega) ?_
                  exact ih _ _ _ _ _ _ _ (j + 1) (by omega) hw _ _ hP hD hS ls (lv_sub hl [3, 4, 5, 6, 0] rfl)
                · have hw := hw.2 c183
                  refine lv_iconst (v := (0 : Int32)) hx hb dL_law_1135 (by decide) ?_
                  exact False.elim hw
            · have hw := hw.2 c181
              refine lv_iconst (v := (0 : Int32)) hx hb dL_law_1118 (by decide) ?_
              exact False.elim hw
      have hw := hw.2 c3_16
      by_cases c3_17 : ((xs x4.toNatClampNeg) &&& (31 : Int32)) = 17
      · have hw := hw.1 c3_17
        refine lv_tableIn (off := 1101) (tgt := 1140) hx hb dL_law_39 (by rw [c3_17]; decide) (by rw [c3_17]; decide) (by rw [c3_17]; rfl) (by decide) ?_
        refine lv_aload_n hx hb dL_law_1140 rfl (lv_at hl 1 rfl) ?_
        refine lv_aload_n hx hb dL_law_1141 rfl (lv_at hl 0 rfl) ?_
        refine lv_iload hx hb dL_law_1142 (lv_at hl 4 rfl) ?_
        refine lv_iconst (v := (1 : Int32)) hx hb dL_law_1144 (by decide) ?_
        refine lv_iadd hx hb dL_law_1145 ?_
        obtain ⟨h184, hw⟩ := hw
        refine va_sld hx hb hX hbl hbA hS h184 dL_law_1146 ?_
        refine lv_aload_n hx hb dL_law_1147 rfl (lv_at hl 0 rfl) ?_
        refine lv_iload hx hb dL_law_1148 (lv_at hl 4 rfl) ?_
        refine lv_iconst (v := (2 : Int32)) hx hb dL_law_1150 (by decide) ?_
        refine lv_iadd hx hb dL_law_1151 ?_
        obtain ⟨h185, hw⟩ := hw
        refine va_sld hx hb hX hbl hbA hS h185 dL_law_1152 ?_
        refine lv_aload_n hx hb dL_law_1153 rfl (lv_at hl 3 rfl) ?_
        have hPx := z_perm_P z_lo hP
        have hDx := z_perm_D z_lo hD
        have hPc := (z_app_P hPx).1
        have hDc := (z_app_D hDx).1
        have hFc := z_free hDx hS hA
        refine vx_calli (vx_runSX (As := [.ref (x 0), .int (xs (x4 + (1 : Int32)).toNatClampNeg), .int (xs (x4 + (2 : Int32)).toNatClampNeg), .ref o]) (rest := []) ⟨hx, hb, hml, hown, hts⟩ (c_L_resize l hfl D cs o x tq h a H.size sa f S tx hs Ls (xs (x4 + (1 : Int32)).toNatClampNeg) (xs (x4 + (2 : Int32)).toNatClampNeg) _ hw) (vx_cwSW 4 hts gL_law_L_resize rfl rfl rfl (by decide +kernel) ⟨Nat.le_of_ble_eq_true rfl, Nat.le_of_ble_eq_true rfl⟩) (PX_S hPc hDc hKK hTW hTZ hS hFc) rfl rfl hl.1 rfl (lv_room (Nat.le_of_ble_eq_true rfl)) dL_law_1154 ⟨by show _ ≤ 601024; omega, by show _ ≤ 7293034; omega⟩) hS (fun q _ h => hFc q h) hFc (fun q _ h => hFc q h) ?_ (fun r186 u186 t H locs ht hvm hw hB hz1 hk1 hS => ?_)
        · intro E ce q9 u186 t H locs ht hvm hpx hB hz1 hk1 hS hq9 hce hcl
          exact hpx.elim
        obtain ⟨u186_0, u186_1, u186_2, u186_3, u186_4⟩ := u186
        obtain ⟨hP1, hD1⟩ := hB
        rw [ht] at hP1
        obtain ⟨hPx, hDx⟩ := z_join hPx hDx hk1 hFc hP1 hD1
        have hP : va_P D vwCl (w_Mod cs mq M ++ w_Out cs o u186_0 ++ w_Xo cs x tq h a u186_1 ++ w_Text cs tq u186_2 ++ w_Hist cs h a u186_3 ++ linesW cs a 18 u186_4) H := z_perm_P z_lob hPx
        have hD : va_D (fun q : Nat => s.heap.size ≤ q) (w_Mod cs mq M ++ w_Out cs o u186_0 ++ w_Xo cs x tq h a u186_1 ++ w_Text cs tq u186_2 ++ w_Hist cs h a u186_3 ++ linesW cs a 18 u186_4) := z_perm_D z_lob hDx
        refine lv_istore (lv' := [(5, .int r186), (0, .ref b), (1, .ref (x 0)), (2, .ref (mq 0)), (3, .ref o), (4, .int x4)]) hx hb dL_law_1157 hl (by decide) rfl (fun ls hl => ?_)
        refine lv_aload_n hx hb dL_law_1159 rfl (lv_at hl 3 rfl) ?_
        refine lv_aload_n hx hb dL_law_1160 rfl (lv_at hl 1 rfl) ?_
        refine lv_iload hx hb dL_law_1161 (lv_at hl 5 rfl) ?_
        refine lv_iconst (v := (1 : Int32)) hx hb dL_law_1163 (by decide) ?_
        refine lv_iadd hx hb dL_law_1164 ?_
        obtain ⟨h187, hw⟩ := hw
        refine va_sld hx hb hX hbl hbA hS h187 dL_law_1165 ?_
        refine lv_aload_n hx hb dL_law_1166 rfl (lv_at hl 1 rfl) ?_
        refine lv_iload hx hb dL_law_1167 (lv_at hl 5 rfl) ?_
        refine lv_iconst (v := (2 : Int32)) hx hb dL_law_1169 (by decide) ?_
        refine lv_iadd hx hb dL_law_1170 ?_
        obtain ⟨h188, hw⟩ := hw
        refine va_sld hx hb hX hbl hbA hS h188 dL_law_1171 ?_
        have hPx := z_perm_P z_lm hP
        have hDx := z_perm_D z_lm hD
        have hPc := (z_app_P hPx).1
        have hDc := (z_app_D hDx).1
        have hFc := z_free hDx hS hA
        refine va_calli (va_runV (As := [.int (xs (x4 + (1 : Int32)).toNatClampNeg), .int (xs (x4 + (2 : Int32)).toNatClampNeg)]) (rest := []) ⟨hx, hb, hml, hown, hts⟩ (c_X4_resize l D cs mq H.size M (xs (x4 + (1 : Int32)).toNatClampNeg) (xs (x4 + (2 : Int32)).toNatClampNeg) _ hw) (cwV 2 hts gL_law_X4_resize rfl rfl rfl (by decide +kernel) ⟨Nat.le_of_ble_eq_true rfl, Nat.le_of_ble_eq_true rfl⟩) (PC_V hPc hDc hKK 0 4 rfl rfl) rfl rfl hl.1 rfl (lv_room (Nat.le_of_ble_eq_true rfl)) dL_law_1172 ⟨by show _ ≤ 601024; omega, by show _ ≤ 7293034; omega⟩) hS (fun q _ h => hFc q h) hFc (fun r189 u189 t H locs ht hvm hw hB hz1 hk1 hS => ?_)
        obtain ⟨hP1, hD1⟩ := hB
        rw [ht] at hP1
        obtain ⟨hPx, hDx⟩ := z_join hPx hDx hk1 hFc hP1 hD1
        have hP : va_P D vwCl (w_Mod cs mq u189 ++ w_Out cs o u186_0 ++ w_Xo cs x tq h a u186_1 ++ w_Text cs tq u186_2 ++ w_Hist cs h a u186_3 ++ linesW cs a 18 u186_4) H := z_perm_P z_lmb hPx
        have hD : va_D (fun q : Nat => s.heap.size ≤ q) (w_Mod cs mq u189 ++ w_Out cs o u186_0 ++ w_Xo cs x tq h a u186_1 ++ w_Text cs tq u186_2 ++ w_Hist cs h a u186_3 ++ linesW cs a 18 u186_4) := z_perm_D z_lmb hDx
        refine lv_istore (lv' := [(6, .int r189), (5, .int r186), (0, .ref b), (1, .ref (x 0)), (2, .ref (mq 0)), (3, .ref o), (4, .int x4)]) hx hb dL_law_1175 hl (by decide) rfl (fun ls hl => ?_)
        refine lv_aload_n hx hb dL_law_1177 rfl (lv_at hl 4 rfl) ?_
        have hPx := z_perm_P z_lm hP
        have hDx := z_perm_D z_lm hD
        have hPc := (z_app_P hPx).1
        have hDc := (z_app_D hDx).1
        refine z_calli (va_runV (As := []) (rest := []) ⟨hx, hb, hml, hown, hts⟩ (c_X4_thrown l D cs mq H.size u189 _ hw) (cwV 0 hts gL_law_X4_thrown rfl rfl rfl (by decide +kernel) ⟨Nat.le_of_ble_eq_true rfl, Nat.le_of_ble_eq_true rfl⟩) (PC_V hPc hDc hKK 0 4 rfl rfl) rfl rfl hl.1 rfl (lv_room (Nat.le_of_ble_eq_true rfl)) dL_law_1178 ⟨by show _ ≤ 601024; omega, by show _ ≤ 7293034; omega⟩) (fun r190 hw => ?_)
        refine lv_iload hx hb dL_law_1181 (lv_at hl 1 rfl) ?_
        refine lv_icmp_eq (tgt := 1188) hx hb dL_law_1183 (by decide) (fun c191 => ?_) (fun c191 => ?_)
        · have hw := hw.1 c191
          refine lv_iload hx hb dL_law_1188 (lv_at hl 1 rfl) ?_
          refine lv_if_ne (tgt := 1205) hx hb dL_law_1190 (by decide) (fun c192 => ?_) (fun c192 => ?_)
          · have hw := hw.2 c192
            refine lv_goto (tgt := 1991) hx hb dL_law_1205 (by decide) ?_
            refine lv_iinc (v := x4 + 4) (lv' := [(4, .int (x4 + 4)), (6, .int r189), (5, .int r186), (0, .ref b), (1, .ref (x 0)), (2, .ref (mq 0)), (3, .ref o)]) hx hb dL_law_1991 hl (k := 6) rfl rfl (by decide) rfl (fun ls hl => ?_)
            refine lv_goto (tgt := 23) hx hb dL_law_1994 (by decide) ?_
            refine W.widen (k := 1000 + 3 * (j + 1)) (n := 20000 + 18 * (j + 1)) (by omega) (by omega) ?_
            exact ih _ _ _ _ _ _ _ (j + 1) (by omega) hw _ _ hP hD hS ls (lv_sub hl [3, 4, 5, 6, 0] rfl)
          · have hw := hw.1 c192
            refine lv_aload_n hx hb dL_law_1193 rfl (lv_at hl 5 rfl) ?_
            refine lv_iconst (v := (0 : Int32)) hx hb dL_law_1194 (by decide) ?_
            refine va_lald hx hb hK hP 9 3 rfl rfl (show vp_in (0 : Int32) 1 by unfold vp_in; decide) dL_law_1195 ?_
            refine lv_iload hx hb dL_law_1196 (lv_at hl 0 rfl) ?_
            refine lv_i2l (v := r189.toInt64) hx hb dL_law_1198 rfl ?_
            refine W.lcmp hx hb dL_law_1199 ?_
            refine lv_if_eq (tgt := 1205) hx hb dL_law_1200 (by decide) (fun c193 => ?_) (fun c193 => ?_)
            · have hw := hw.1 c193
              refine lv_goto (tgt := 1991) hx hb dL_law_1205 (by decide) ?_
              refine lv_iinc (v := x4 + 4) (lv' := [(4, .int (x4 + 4)), (6, .int r189), (5, .int r186), (0, .ref b), (1, .ref (x 0)), (2, .ref (mq 0)), (3, .ref o)]) hx hb dL_law_1991 hl (k := 6) rfl rfl (by decide) rfl (fun ls hl => ?_)
              refine lv_goto (tgt := 23) hx hb dL_law_1994 (by decide) ?_
              refine W.widen (k := 1000 + 3 * (j + 1)) (n := 20000 + 18 * (j + 1)) (by omega) (by omega) ?_
              exact ih _ _ _ _ _ _ _ (j + 1) (by omega) hw _ _ hP hD hS ls (lv_sub hl [3, 4, 5, 6, 0] rfl)
            · have hw := hw.2 c193
              refine lv_iconst (v := (0 : Int32)) hx hb dL_law_1203 (by decide) ?_
              exact False.elim hw
        · have hw := hw.2 c191
          refine lv_iconst (v := (0 : Int32)) hx hb dL_law_1186 (by decide) ?_
          exact False.elim hw
      have hw := hw.2 c3_17
      by_cases c3_18 : ((xs x4.toNatClampNeg) &&& (31 : Int32)) = 18
      · have hw := hw.1 c3_18
        refine lv_tableIn (off := 1169) (tgt := 1208) hx hb dL_law_39 (by rw [c3_18]; decide) (by rw [c3_18]; decide) (by rw [c3_18]; rfl) (by decide) ?_
        refine lv_aload_n hx hb dL_law_1208 rfl (lv_at hl 1 rfl) ?_
        refine lv_aload_n hx hb dL_law_1209 rfl (lv_at hl 0 rfl) ?_
        refine lv_iload hx hb dL_law_1210 (lv_at hl 4 rfl) ?_
        refine lv_iconst (v := (1 : Int32)) hx hb dL_law_1212 (by decide) ?_
        refine lv_iadd hx hb dL_law_1213 ?_
        obtain ⟨h194, hw⟩ := hw
        refine va_sld hx hb hX hbl hbA hS h194 dL_law_1214 ?_
        refine lv_aload_n hx hb dL_law_1215 rfl (lv_at hl 0 rfl) ?_
        refine lv_iload hx hb dL_law_1216 (lv_at hl 4 rfl) ?_
        refine lv_iconst (v := (2 : Int32)) hx hb dL_law_1218 (by decide) ?_
        refine lv_iadd hx hb dL_law_1219 ?_
        obtain ⟨h195, hw⟩ := hw
        refine va_sld hx hb hX hbl hbA hS h195 dL_law_1220 ?_
        refine lv_aload_n hx hb dL_law_1221 rfl (lv_at hl 3 rfl) ?_
        have hPx := z_perm_P z_lo hP
        have hDx := z_perm_D z_lo hD
        have hPc := (z_app_P hPx).1
        have hDc := (z_app_D hDx).1
        have hFc := z_free hDx hS hA
        refine vx_calli (vx_runSX (As := [.ref (x 0), .int (xs (x4 + (1 : Int32)).toNatClampNeg), .int (xs (x4 + (2 : Int32)).toNatClampNeg), .ref o]) (rest := []) ⟨hx, hb, hml, hown, hts⟩ (c_L_pour l hfl D cs o x tq h a H.size sa f S tx hs Ls (xs (x4 + (1 : Int32)).toNatClampNeg) (xs (x4 + (2 : Int32)).toNatClampNeg) _ hw) (vx_cwSW 4 hts gL_law_L_pour rfl rfl rfl (by decide +kernel) ⟨Nat.le_of_ble_eq_true rfl, Nat.le_of_ble_eq_true rfl⟩) (PX_S hPc hDc hKK hTW hTZ hS hFc) rfl rfl hl.1 rfl (lv_room (Nat.le_of_ble_eq_true rfl)) dL_law_1222 ⟨by show _ ≤ 601024; omega, by show _ ≤ 7293034; omega⟩) hS (fun q _ h => hFc q h) hFc (fun q _ h => hFc q h) ?_ (fun r196 u196 t H locs ht hvm hw hB hz1 hk1 hS => ?_)
        · intro E ce q9 u196 t H locs ht hvm hpx hB hz1 hk1 hS hq9 hce hcl
          exact hpx.elim
        obtain ⟨u196_0, u196_1, u196_2, u196_3, u196_4⟩ := u196
        obtain ⟨hP1, hD1⟩ := hB
        rw [ht] at hP1
        obtain ⟨hPx, hDx⟩ := z_join hPx hDx hk1 hFc hP1 hD1
        have hP : va_P D vwCl (w_Mod cs mq M ++ w_Out cs o u196_0 ++ w_Xo cs x tq h a u196_1 ++ w_Text cs tq u196_2 ++ w_Hist cs h a u196_3 ++ linesW cs a 18 u196_4) H := z_perm_P z_lob hPx
        have hD : va_D (fun q : Nat => s.heap.size ≤ q) (w_Mod cs mq M ++ w_Out cs o u196_0 ++ w_Xo cs x tq h a u196_1 ++ w_Text cs tq u196_2 ++ w_Hist cs h a u196_3 ++ linesW cs a 18 u196_4) := z_perm_D z_lob hDx
        refine lv_istore (lv' := [(5, .int r196), (0, .ref b), (1, .ref (x 0)), (2, .ref (mq 0)), (3, .ref o), (4, .int x4)]) hx hb dL_law_1225 hl (by decide) rfl (fun ls hl => ?_)
        refine lv_aload_n hx hb dL_law_1227 rfl (lv_at hl 3 rfl) ?_
        refine lv_aload_n hx hb dL_law_1228 rfl (lv_at hl 1 rfl) ?_
        refine lv_iload hx hb dL_law_1229 (lv_at hl 5 rfl) ?_
        refine lv_iconst (v := (1 : Int32)) hx hb dL_law_1231 (by decide) ?_
        refine lv_iadd hx hb dL_law_1232 ?_
        obtain ⟨h197, hw⟩ := hw
        refine va_sld hx hb hX hbl hbA hS h197 dL_law_1233 ?_
        refine lv_aload_n hx hb dL_law_1234 rfl (lv_at hl 1 rfl) ?_
        refine lv_iload hx hb dL_law_1235 (lv_at hl 5 rfl) ?_
        refine lv_iconst (v := (2 : Int32)) hx hb dL_law_1237 (by decide) ?_
        refine lv_iadd hx hb dL_law_1238 ?_
        obtain ⟨h198, hw⟩ := hw
        refine va_sld hx hb hX hbl hbA hS h198 dL_law_1239 ?_
        have hPx := z_perm_P z_lm hP
        have hDx := z_perm_D z_lm hD
        have hPc := (z_app_P hPx).1
        have hDc := (z_app_D hDx).1
        have hFc := z_free hDx hS hA
        refine va_calll (va_runV (As := [.int (xs (x4 + (1 : Int32)).toNatClampNeg), .int (xs (x4 + (2 : Int32)).toNatClampNeg)]) (rest := []) ⟨hx, hb, hml, hown, hts⟩ (c_X4_pour l D cs mq H.size M (xs (x4 + (1 : Int32)).toNatClampNeg) (xs (x4 + (2 : Int32)).toNatClampNeg) _ hw) (cwV 2 hts gL_law_X4_pour rfl rfl rfl (by decide +kernel) ⟨Nat.le_of_ble_eq_true rfl, Nat.le_of_ble_eq_true rfl⟩) (PC_V hPc hDc hKK 0 4 rfl rfl) rfl rfl hl.1 rfl (lv_room (Nat.le_of_ble_eq_true rfl)) dL_law_1240 ⟨by show _ ≤ 601024; omega, by show _ ≤ 7293034; omega⟩) hS (fun q _ h => hFc q h) hFc (fun r199 u199 t H locs ht hvm hw hB hz1 hk1 hS => ?_)
        obtain ⟨hP1, hD1⟩ := hB
        rw [ht] at hP1
        obtain ⟨hPx, hDx⟩ := z_join hPx hDx hk1 hFc hP1 hD1
        have hP : va_P D vwCl (w_Mod cs mq u199 ++ w_Out cs o u196_0 ++ w_Xo cs x tq h a u196_1 ++ w_Text cs tq u196_2 ++ w_Hist cs h a u196_3 ++ linesW cs a 18 u196_4) H := z_perm_P z_lmb hPx
        have hD : va_D (fun q : Nat => s.heap.size ≤ q) (w_Mod cs mq u199 ++ w_Out cs o u196_0 ++ w_Xo cs x tq h a u196_1 ++ w_Text cs tq u196_2 ++ w_Hist cs h a u196_3 ++ linesW cs a 18 u196_4) := z_perm_D z_lmb hDx
        refine lv_lstore (lv' := [(6, .long r199), (5, .int r196), (0, .ref b), (1, .ref (x 0)), (2, .ref (mq 0)), (3, .ref o), (4, .int x4)]) hx hb dL_law_1243 hl (by decide) rfl (fun ls hl => ?_)
        refine lv_aload_n hx hb dL_law_1245 rfl (lv_at hl 4 rfl) ?_
        have hPx := z_perm_P z_lm hP
        have hDx := z_perm_D z_lm hD
        have hPc := (z_app_P hPx).1
        have hDc := (z_app_D hDx).1
        refine z_calli (va_runV (As := []) (rest := []) ⟨hx, hb, hml, hown, hts⟩ (c_X4_thrown l D cs mq H.size u199 _ hw) (cwV 0 hts gL_law_X4_thrown rfl rfl rfl (by decide +kernel) ⟨Nat.le_of_ble_eq_true rfl, Nat.le_of_ble_eq_true rfl⟩) (PC_V hPc hDc hKK 0 4 rfl rfl) rfl rfl hl.1 rfl (lv_room (Nat.le_of_ble_eq_true rfl)) dL_law_1246 ⟨by show _ ≤ 601024; omega, by show _ ≤ 7293034; omega⟩) (fun r200 hw => ?_)
        refine lv_iload hx hb dL_law_1249 (lv_at hl 1 rfl) ?_
        refine lv_icmp_eq (tgt := 1256) hx hb dL_law_1251 (by decide) (fun c201 => ?_) (fun c201 => ?_)
        · have hw := hw.1 c201
          refine lv_iload hx hb dL_law_1256 (lv_at hl 1 rfl) ?_
          refine lv_if_ne (tgt := 1272) hx hb dL_law_1258 (by decide) (fun c202 => ?_) (fun c202 => ?_)
          · have hw := hw.2 c202
            refine lv_goto (tgt := 1991) hx hb dL_law_1272 (by decide) ?_
            refine lv_iinc (v := x4 + 4) (lv' := [(4, .int (x4 + 4)), (6, .long r199), (5, .int r196), (0, .ref b), (1, .ref (x 0)), (2, .ref (mq 0)), (3, .ref o)]) hx hb dL_law_1991 hl (k := 6) rfl rfl (by decide) rfl (fun ls hl => ?_)
            refine lv_goto (tgt := 23) hx hb dL_law_1994 (by decide) ?_
            refine W.widen (k := 1000 + 3 * (j + 1)) (n := 20000 + 18 * (j + 1)) (by omega) (by omega) ?_
            exact ih _ _ _ _ _ _ _ (j + 1) (by omega) hw _ _ hP hD hS ls (lv_sub hl [3, 4, 5, 6, 0] rfl)
          · have hw := hw.1 c202
            refine lv_aload_n hx hb dL_law_1261 rfl (lv_at hl 5 rfl) ?_
            refine lv_iconst (v := (0 : Int32)) hx hb dL_law_1262 (by decide) ?_
            refine va_lald hx hb hK hP 9 3 rfl rfl (show vp_in (0 : Int32) 1 by unfold vp_in; decide) dL_law_1263 ?_
            refine lv_lload hx hb dL_law_1264 (lv_at hl 0 rfl) ?_
            refine W.lcmp hx hb dL_law_1266 ?_
            refine lv_if_eq (tgt := 1272) hx hb dL_law_1267 (by decide) (fun c203 => ?_) (fun c203 => ?_)
            · have hw := hw.1 c203
              refine lv_goto (tgt := 1991) hx hb dL_law_1272 (by decide) ?_
              refine lv_iinc (v := x4 + 4) (lv' := [(4, .int (x4 + 4)), (6, .long r199), (5, .int r196), (0, .ref b), (1, .ref (x 0)), (2, .ref (mq 0)), (3, .ref o)]) hx hb dL_law_1991 hl (k := 6) rfl rfl (by decide) rfl (fun ls hl => ?_)
              refine lv_goto (tgt := 23) hx hb dL_law_1994 (by decide) ?_
              refine W.widen (k := 1000 + 3 * (j + 1)) (n := 20000 + 18 * (j + 1)) (by omega) (by omega) ?_
              exact ih _ _ _ _ _ _ _ (j + 1) (by omega) hw _ _ hP hD hS ls (lv_sub hl [3, 4, 5, 6, 0] rfl)
            · have hw := hw.2 c203
              refine lv_iconst (v := (0 : Int32)) hx hb dL_law_1270 (by decide) ?_
              exact False.elim hw
        · have hw := hw.2 c201
          refine lv_iconst (v := (0 : Int32)) hx hb dL_law_1254 (by decide) ?_
          exact False.elim hw
      have hw := hw.2 c3_18
      by_cases c3_19 : ((xs x4.toNatClampNeg) &&& (31 : Int32)) = 19
      · have hw := hw.1 c3_19
        refine lv_tableIn (off := 1236) (tgt := 1275) hx hb dL_law_39 (by rw [c3_19]; decide) (by rw [c3_19]; decide) (by rw [c3_19]; rfl) (by decide) ?_
        refine lv_aload_n hx hb dL_law_1275 rfl (lv_at hl 1 rfl) ?_
        refine lv_aload_n hx hb dL_law_1276 rfl (lv_at hl 3 rfl) ?_
        have hPx := z_perm_P z_lo hP
        have hDx := z_perm_D z_lo hD
        have hPc := (z_app_P hPx).1
        have hDc := (z_app_D hDx).1
        have hFc := z_free hDx hS hA
        refine vx_calli (vx_runSX (As := [.ref (x 0), .ref o]) (rest := []) ⟨hx, hb, hml, hown, hts⟩ (c_L_undo l hfl D cs o x tq h a H.size sa f S tx hs Ls _ hw) (vx_cwSW 2 hts gL_law_L_undo rfl rfl rfl (by decide +kernel) ⟨Nat.le_of_ble_eq_true rfl, Nat.le_of_ble_eq_true rfl⟩) (PX_S hPc hDc hKK hTW hTZ hS hFc) rfl rfl hl.1 rfl (lv_room (Nat.le_of_ble_eq_true rfl)) dL_law_1277 ⟨by show _ ≤ 601024; omega, by show _ ≤ 7293034; omega⟩) hS (fun q _ h => hFc q h) hFc (fun q _ h => hFc q h) ?_ (fun r204 u204 t H locs ht hvm hw hB hz1 hk1 hS => ?_)
        · intro E ce q9 u204 t H locs ht hvm hpx hB hz1 hk1 hS hq9 hce hcl
          exact hpx.elim
        obtain ⟨u204_0, u204_1, u204_2, u204_3, u204_4⟩ := u204
        obtain ⟨hP1, hD1⟩ := hB
        rw [ht] at hP1
        obtain ⟨hPx, hDx⟩ := z_join hPx hDx hk1 hFc hP1 hD1
        have hP : va_P D vwCl (w_Mod cs mq M ++ w_Out cs o u204_0 ++ w_Xo cs x tq h a u204_1 ++ w_Text cs tq u204_2 ++ w_Hist cs h a u204_3 ++ linesW cs a 18 u204_4) H := z_perm_P z_lob hPx
        have hD : va_D (fun q : Nat => s.heap.size ≤ q) (w_Mod cs mq M ++ w_Out cs o u204_0 ++ w_Xo cs x tq h a u204_1 ++ w_Text cs tq u204_2 ++ w_Hist cs h a u204_3 ++ linesW cs a 18 u204_4) := z_perm_D z_lob hDx
        refine lv_istore (lv' := [(5, .int r204), (0, .ref b), (1, .ref (x 0)), (2, .ref (mq 0)), (3, .ref o), (4, .int x4)]) hx hb dL_law_1280 hl (by decide) rfl (fun ls hl => ?_)
        refine lv_aload_n hx hb dL_law_1282 rfl (lv_at hl 3 rfl) ?_
        have hPx := z_perm_P z_lm hP
        have hDx := z_perm_D z_lm hD
        have hPc := (z_app_P hPx).1
        have hDc := (z_app_D hDx).1
        have hFc := z_free hDx hS hA
        refine va_calli (va_runV (As := []) (rest := []) ⟨hx, hb, hml, hown, hts⟩ (c_X4_undo l D cs mq H.size M _ hw) (cwV 0 hts gL_law_X4_undo rfl rfl rfl (by decide +kernel) ⟨Nat.le_of_ble_eq_true rfl, Nat.le_of_ble_eq_true rfl⟩) (PC_V hPc hDc hKK 0 4 rfl rfl) rfl rfl hl.1 rfl (lv_room (Nat.le_of_ble_eq_true rfl)) dL_law_1283 ⟨by show _ ≤ 601024; omega, by show _ ≤ 7293034; omega⟩) hS (fun q _ h => hFc q h) hFc (fun r205 u205 t H locs ht hvm hw hB hz1 hk1 hS => ?_)
        obtain ⟨hP1, hD1⟩ := hB
        rw [ht] at hP1
        obtain ⟨hPx, hDx⟩ := z_join hPx hDx hk1 hFc hP1 hD1
        have hP : va_P D vwCl (w_Mod cs mq u205 ++ w_Out cs o u204_0 ++ w_Xo cs x tq h a u204_1 ++ w_Text cs tq u204_2 ++ w_Hist cs h a u204_3 ++ linesW cs a 18 u204_4) H := z_perm_P z_lmb hPx
        have hD : va_D (fun q : Nat => s.heap.size ≤ q) (w_Mod cs mq u205 ++ w_Out cs o u204_0 ++ w_Xo cs x tq h a u204_1 ++ w_Text cs tq u204_2 ++ w_Hist cs h a u204_3 ++ linesW cs a 18 u204_4) := z_perm_D z_lmb hDx
        refine lv_istore (lv' := [(6, .int r205), (5, .int r204), (0, .ref b), (1, .ref (x 0)), (2, .ref (mq 0)), (3, .ref o), (4, .int x4)]) hx hb dL_law_1286 hl (by decide) rfl (fun ls hl => ?_)
        refine lv_aload_n hx hb dL_law_1288 rfl (lv_at hl 4 rfl) ?_
        have hPx := z_perm_P z_lm hP
        have hDx := z_perm_D z_lm hD
        have hPc := (z_app_P hPx).1
        have hDc := (z_app_D hDx).1
        refine z_calli (va_runV (As := []) (rest := []) ⟨hx, hb, hml, hown, hts⟩ (c_X4_thrown l D cs mq H.size u205 _ hw) (cwV 0 hts gL_law_X4_thrown rfl rfl rfl (by decide +kernel) ⟨Nat.le_of_ble_eq_true rfl, Nat.le_of_ble_eq_true rfl⟩) (PC_V hPc hDc hKK 0 4 rfl rfl) rfl rfl hl.1 rfl (lv_room (Nat.le_of_ble_eq_true rfl)) dL_law_1289 ⟨by show _ ≤ 601024; omega, by show _ ≤ 7293034; omega⟩) (fun r206 hw => ?_)
        refine lv_iload hx hb dL_law_1292 (lv_at hl 1 rfl) ?_
        refine lv_icmp_eq (tgt := 1299) hx hb dL_law_1294 (by decide) (fun c207 => ?_) (fun c207 => ?_)
        · have hw := hw.1 c207
          refine lv_iload hx hb dL_law_1299 (lv_at hl 1 rfl) ?_
          refine lv_if_ne (tgt := 1316) hx hb dL_law_1301 (by decide) (fun c208 => ?_) (fun c208 => ?_)
          · have hw := hw.2 c208
            refine lv_goto (tgt := 1991) hx hb dL_law_1316 (by decide) ?_
            refine lv_iinc (v := x4 + 4) (lv' := [(4, .int (x4 + 4)), (6, .int r205), (5, .int r204), (0, .ref b), (1, .ref (x 0)), (2, .ref (mq 0)), (3, .ref o)]) hx hb dL_law_1991 hl (k := 6) rfl rfl (by decide) rfl (fun ls hl => ?_)
            refine lv_goto (tgt := 23) hx hb dL_law_1994 (by decide) ?_
            refine W.widen (k := 1000 + 3 * (j + 1)) (n := 20000 + 18 * (j + 1)) (by omega) (by omega) ?_
            exact ih _ _ _ _ _ _ _ (j + 1) (by omega) hw _ _ hP hD hS ls (lv_sub hl [3, 4, 5, 6, 0] rfl)
          · have hw := hw.1 c208
            refine lv_aload_n hx hb dL_law_1304 rfl (lv_at hl 5 rfl) ?_
            refine lv_iconst (v := (0 : Int32)) hx hb dL_law_1305 (by decide) ?_
            refine va_lald hx hb hK hP 9 3 rfl rfl (show vp_in (0 : Int32) 1 by unfold vp_in; decide) dL_law_1306 ?_
            refine lv_iload hx hb dL_law_1307 (lv_at hl 0 rfl) ?_
            refine lv_i2l (v := r205.toInt64) hx hb dL_law_1309 rfl ?_
            refine W.lcmp hx hb dL_law_1310 ?_
            refine lv_if_eq (tgt := 1316) hx hb dL_law_1311 (by decide) (fun c209 => ?_) (fun c209 => ?_)
            · have hw := hw.1 c209
              refine lv_goto (tgt := 1991) hx hb dL_law_1316 (by decide) ?_
              refine lv_iinc (v := x4 + 4) (lv' := [(4, .int (x4 + 4)), (6, .int r205), (5, .int r204), (0, .ref b), (1, .ref (x 0)), (2, .ref (mq 0)), (3, .ref o)]) hx hb dL_law_1991 hl (k := 6) rfl rfl (by decide) rfl (fun ls hl => ?_)
              refine lv_goto (tgt := 23) hx hb dL_law_1994 (by decide) ?_
              refine W.widen (k := 1000 + 3 * (j + 1)) (n := 20000 + 18 * (j + 1)) (by omega) (by omega) ?_
              exact ih _ _ _ _ _ _ _ (j + 1) (by omega) hw _ _ hP hD hS ls (lv_sub hl [3, 4, 5, 6, 0] rfl)
            · have hw := hw.2 c209
              refine lv_iconst (v := (0 : Int32)) hx hb dL_law_1314 (by decide) ?_
              exact False.elim hw
        · have hw := hw.2 c207
          refine lv_iconst (v := (0 : Int32)) hx hb dL_law_1297 (by decide) ?_
          exact False.elim hw
      have hw := hw.2 c3_19
      by_cases c3_20 : ((xs x4.toNatClampNeg) &&& (31 : Int32)) = 20
      · have hw := hw.1 c3_20
        refine lv_tableIn (off := 1280) (tgt := 1319) hx hb dL_law_39 (by rw [c3_20]; decide) (by rw [c3_20]; decide) (by rw [c3_20]; rfl) (by decide) ?_
        refine lv_aload_n hx hb dL_law_1319 rfl (lv_at hl 1 rfl) ?_
        refine lv_aload_n hx hb dL_law_1320 rfl (lv_at hl 0 rfl) ?_
        refine lv_iload hx hb dL_law_1321 (lv_at hl 4 rfl) ?_
        refine lv_iconst (v := (1 : Int32)) hx hb dL_law_1323 (by decide) ?_
        refine lv_iadd hx hb dL_law_1324 ?_
        obtain ⟨h210, hw⟩ := hw
        refine va_sld hx hb hX hbl hbA hS h210 dL_law_1325 ?_
        refine lv_aload_n hx hb dL_law_1326 rfl (lv_at hl 3 rfl) ?_
        have hPx := z_perm_P z_lo hP
        have hDx := z_perm_D z_lo hD
        have hPc := (z_app_P hPx).1
        have hDc := (z_app_D hDx).1
        have hFc := z_free hDx hS hA
        refine vx_calli (vx_runSX (As := [.ref (x 0), .int (xs (x4 + (1 : Int32)).toNatClampNeg), .ref o]) (rest := []) ⟨hx, hb, hml, hown, hts⟩ (c_L_settled l hfl D cs o x tq h a H.size sa f S tx hs Ls (xs (x4 + (1 : Int32)).toNatClampNeg) _ hw) (vx_cwSW 3 hts gL_law_L_settled rfl rfl rfl (by decide +kernel) ⟨Nat.le_of_ble_eq_true rfl, Nat.le_of_ble_eq_true rfl⟩) (PX_S hPc hDc hKK hTW hTZ hS hFc) rfl rfl hl.1 rfl (lv_room (Nat.le_of_ble_eq_true rfl)) dL_law_1327 ⟨by show _ ≤ 601024; omega, by show _ ≤ 7293034; omega⟩) hS (fun q _ h => hFc q h) hFc (fun q _ h => hFc q h) ?_ (fun r211 u211 t H locs ht hvm hw hB hz1 hk1 hS => ?_)
        · intro E ce q9 u211 t H locs ht hvm hpx hB hz1 hk1 hS hq9 hce hcl
          exact hpx.elim
        obtain ⟨u211_0, u211_1, u211_2, u211_3, u211_4⟩ := u211
        obtain ⟨hP1, hD1⟩ := hB
        rw [ht] at hP1
        obtain ⟨hPx, hDx⟩ := z_join hPx hDx hk1 hFc hP1 hD1
        have hP : va_P D vwCl (w_Mod cs mq M ++ w_Out cs o u211_0 ++ w_Xo cs x tq h a u211_1 ++ w_Text cs tq u211_2 ++ w_Hist cs h a u211_3 ++ linesW cs a 18 u211_4) H := z_perm_P z_lob hPx
        have hD : va_D (fun q : Nat => s.heap.size ≤ q) (w_Mod cs mq M ++ w_Out cs o u211_0 ++ w_Xo cs x tq h a u211_1 ++ w_Text cs tq u211_2 ++ w_Hist cs h a u211_3 ++ linesW cs a 18 u211_4) := z_perm_D z_lob hDx
        refine lv_istore (lv' := [(5, .int r211), (0, .ref b), (1, .ref (x 0)), (2, .ref (mq 0)), (3, .ref o), (4, .int x4)]) hx hb dL_law_1330 hl (by decide) rfl (fun ls hl => ?_)
        refine lv_aload_n hx hb dL_law_1332 rfl (lv_at hl 3 rfl) ?_
        refine lv_aload_n hx hb dL_law_1333 rfl (lv_at hl 1 rfl) ?_
        refine lv_iload hx hb dL_law_1334 (lv_at hl 5 rfl) ?_
        refine lv_iconst (v := (1 : Int32)) hx hb dL_law_1336 (by decide) ?_
        refine lv_iadd hx hb dL_law_1337 ?_
        obtain ⟨h212, hw⟩ := hw
        refine va_sld hx hb hX hbl hbA hS h212 dL_law_1338 ?_
        have hPx := z_perm_P z_lm hP
        have hDx := z_perm_D z_lm hD
        have hPc := (z_app_P hPx).1
        have hDc := (z_app_D hDx).1
        have hFc := z_free hDx hS hA
        refine va_calli (va_runV (As := [.int (xs (x4 + (1 : Int32)).toNatClampNeg)]) (rest := []) ⟨hx, hb, hml, hown, hts⟩ (c_X4_settled l D cs mq H.size M (xs (x4 + (1 : Int32)).toNatClampNeg) _ hw) (cwV 1 hts gL_law_X4_settled rfl rfl rfl (by decide +kernel) ⟨Nat.le_of_ble_eq_true rfl, Nat.le_of_ble_eq_true rfl⟩) (PC_V hPc hDc hKK 0 4 rfl rfl) rfl rfl hl.1 rfl (lv_room (Nat.le_of_ble_eq_true rfl)) dL_law_1339 ⟨by show _ ≤ 601024; omega, by show _ ≤ 7293034; omega⟩) hS (fun q _ h => hFc q h) hFc (fun r213 u213 t H locs ht hvm hw hB hz1 hk1 hS => ?_)
        obtain ⟨hP1, hD1⟩ := hB
        rw [ht] at hP1
        obtain ⟨hPx, hDx⟩ := z_join hPx hDx hk1 hFc hP1 hD1
        have hP : va_P D vwCl (w_Mod cs mq u213 ++ w_Out cs o u211_0 ++ w_Xo cs x tq h a u211_1 ++ w_Text cs tq u211_2 ++ w_Hist cs h a u211_3 ++ linesW cs a 18 u211_4) H := z_perm_P z_lmb hPx
        have hD : va_D (fun q : Nat => s.heap.size ≤ q) (w_Mod cs mq u213 ++ w_Out cs o u211_0 ++ w_Xo cs x tq h a u211_1 ++ w_Text cs tq u211_2 ++ w_Hist cs h a u211_3 ++ linesW cs a 18 u211_4) := z_perm_D z_lmb hDx
        refine lv_istore (lv' := [(6, .int r213), (5, .int r211), (0, .ref b), (1, .ref (x 0)), (2, .ref (mq 0)), (3, .ref o), (4, .int x4)]) hx hb dL_law_1342 hl (by decide) rfl (fun ls hl => ?_)
        refine lv_aload_n hx hb dL_law_1344 rfl (lv_at hl 4 rfl) ?_
        have hPx := z_perm_P z_lm hP
        have hDx := z_perm_D z_lm hD
        have hPc := (z_app_P hPx).1
        have hDc := (z_app_D hDx).1
        refine z_calli (va_runV (As := []) (rest := []) ⟨hx, hb, hml, hown, hts⟩ (c_X4_thrown l D cs mq H.size u213 _ hw) (cwV 0 hts gL_law_X4_thrown rfl rfl rfl (by decide +kernel) ⟨Nat.le_of_ble_eq_true rfl, Nat.le_of_ble_eq_true rfl⟩) (PC_V hPc hDc hKK 0 4 rfl rfl) rfl rfl hl.1 rfl (lv_room (Nat.le_of_ble_eq_true rfl)) dL_law_1345 ⟨by show _ ≤ 601024; omega, by show _ ≤ 7293034; omega⟩) (fun r214 hw => ?_)
        refine lv_iload hx hb dL_law_1348 (lv_at hl 1 rfl) ?_
        refine lv_icmp_eq (tgt := 1355) hx hb dL_law_1350 (by decide) (fun c215 => ?_) (fun c215 => ?_)
        · have hw := hw.1 c215
          refine lv_iload hx hb dL_law_1355 (lv_at hl 1 rfl) ?_
          refine lv_if_ne (tgt := 1372) hx hb dL_law_1357 (by decide) (fun c216 => ?_) (fun c216 => ?_)
          · have hw := hw.2 c216
            refine lv_goto (tgt := 1991) hx hb dL_law_1372 (by decide) ?_
            refine lv_iinc (v := x4 + 4) (lv' := [(4, .int (x4 + 4)), (6, .int r213), (5, .int r211), (0, .ref b), (1, .ref (x 0)), (2, .ref (mq 0)), (3, .ref o)]) hx hb dL_law_1991 hl (k := 6) rfl rfl (by decide) rfl (fun ls hl => ?_)
            refine lv_goto (tgt := 23) hx hb dL_law_1994 (by decide) ?_
            refine W.widen (k := 1000 + 3 * (j + 1)) (n := 20000 + 18 * (j + 1)) (by omega) (by omega) ?_
            exact ih _ _ _ _ _ _ _ (j + 1) (by omega) hw _ _ hP hD hS ls (lv_sub hl [3, 4, 5, 6, 0] rfl)
          · have hw := hw.1 c216
            refine lv_aload_n hx hb dL_law_1360 rfl (lv_at hl 5 rfl) ?_
            refine lv_iconst (v := (0 : Int32)) hx hb dL_law_1361 (by decide) ?_
            refine va_lald hx hb hK hP 9 3 rfl rfl (show vp_in (0 : Int32) 1 by unfold vp_in; decide) dL_law_1362 ?_
            refine lv_iload hx hb dL_law_1363 (lv_at hl 0 rfl) ?_
            refine lv_i2l (v := r213.toInt64) hx hb dL_law_1365 rfl ?_
            refine W.lcmp hx hb dL_law_1366 ?_
            refine lv_if_eq (tgt := 1372) hx hb dL_law_1367 (by decide) (fun c217 => ?_) (fun c217 => ?_)
            · have hw := hw.1 c217
              refine lv_goto (tgt := 1991) hx hb dL_law_1372 (by decide) ?_
              refine lv_iinc (v := x4 + 4) (lv' := [(4, .int (x4 + 4)), (6, .int r213), (5, .int r211), (0, .ref b), (1, .ref (x 0)), (2, .ref (mq 0)), (3, .ref o)]) hx hb dL_law_1991 hl (k := 6) rfl rfl (by decide) rfl (fun ls hl => ?_)
              refine lv_goto (tgt := 23) hx hb dL_law_1994 (by decide) ?_
              refine W.widen (k := 1000 + 3 * (j + 1)) (n := 20000 + 18 * (j + 1)) (by omega) (by omega) ?_
              exact ih _ _ _ _ _ _ _ (j + 1) (by omega) hw _ _ hP hD hS ls (lv_sub hl [3, 4, 5, 6, 0] rfl)
            · have hw := hw.2 c217
              refine lv_iconst (v := (0 : Int32)) hx hb dL_law_1370 (by decide) ?_
              exact False.elim hw
        · have hw := hw.2 c215
          refine lv_iconst (v := (0 : Int32)) hx hb dL_law_1353 (by decide) ?_
          exact False.elim hw
      have hw := hw.2 c3_20
      by_cases c3_21 : ((xs x4.toNatClampNeg) &&& (31 : Int32)) = 21
      · have hw := hw.1 c3_21
        refine lv_tableIn (off := 1336) (tgt := 1375) hx hb dL_law_39 (by rw [c3_21]; decide) (by rw [c3_21]; decide) (by rw [c3_21]; rfl) (by decide) ?_
        refine lv_aload_n hx hb dL_law_1375 rfl (lv_at hl 1 rfl) ?_
        refine lv_aload_n hx hb dL_law_1376 rfl (lv_at hl 0 rfl) ?_
        refine lv_iload hx hb dL_law_1377 (lv_at hl 4 rfl) ?_
        refine lv_iconst (v := (1 : Int32)) hx hb dL_law_1379 (by decide) ?_
        refine lv_iadd hx hb dL_law_1380 ?_
        obtain ⟨h218, hw⟩ := hw
        refine va_sld hx hb hX hbl hbA hS h218 dL_law_1381 ?_
        refine lv_aload_n hx hb dL_law_1382 rfl (lv_at hl 3 rfl) ?_
        have hPx := z_perm_P z_lo hP
        have hDx := z_perm_D z_lo hD
        have hPc := (z_app_P hPx).1
        have hDc := (z_app_D hDx).1
        have hFc := z_free hDx hS hA
        refine vx_calli (vx_runSX (As := [.ref (x 0), .int (xs (x4 + (1 : Int32)).toNatClampNeg), .ref o]) (rest := []) ⟨hx, hb, hml, hown, hts⟩ (c_L_shownAtLast l hfl D cs o x tq h a H.size sa f S tx hs Ls (xs (x4 + (1 : Int32)).toNatClampNeg) _ hw) (vx_cwSW 3 hts gL_law_L_shownAtLast rfl rfl rfl (by decide +kernel) ⟨Nat.le_of_ble_eq_true rfl, Nat.le_of_ble_eq_true rfl⟩) (PX_S hPc hDc hKK hTW hTZ hS hFc) rfl rfl hl.1 rfl (lv_room (Nat.le_of_ble_eq_true rfl)) dL_law_1383 ⟨by show _ ≤ 601024; omega, by show _ ≤ 7293034; omega⟩) hS (fun q _ h => hFc q h) hFc (fun q _ h => hFc q h) ?_ (fun r219 u219 t H locs ht hvm hw hB hz1 hk1 hS => ?_)
        · intro E ce q9 u219 t H locs ht hvm hpx hB hz1 hk1 hS hq9 hce hcl
          exact hpx.elim
        obtain ⟨u219_0, u219_1, u219_2, u219_3, u219_4⟩ := u219
        obtain ⟨hP1, hD1⟩ := hB
        rw [ht] at hP1
        obtain ⟨hPx, hDx⟩ := z_join hPx hDx hk1 hFc hP1 hD1
        have hP : va_P D vwCl (w_Mod cs mq M ++ w_Out cs o u219_0 ++ w_Xo cs x tq h a u219_1 ++ w_Text cs tq u219_2 ++ w_Hist cs h a u219_3 ++ linesW cs a 18 u219_4) H := z_perm_P z_lob hPx
        have hD : va_D (fun q : Nat => s.heap.size ≤ q) (w_Mod cs mq M ++ w_Out cs o u219_0 ++ w_Xo cs x tq h a u219_1 ++ w_Text cs tq u219_2 ++ w_Hist cs h a u219_3 ++ linesW cs a 18 u219_4) := z_perm_D z_lob hDx
        refine lv_istore (lv' := [(5, .int r219), (0, .ref b), (1, .ref (x 0)), (2, .ref (mq 0)), (3, .ref o), (4, .int x4)]) hx hb dL_law_1386 hl (by decide) rfl (fun ls hl => ?_)
        refine lv_aload_n hx hb dL_law_1388 rfl (lv_at hl 3 rfl) ?_
        refine lv_aload_n hx hb dL_law_1389 rfl (lv_at hl 1 rfl) ?_
        refine lv_iload hx hb dL_law_1390 (lv_at hl 5 rfl) ?_
        refine lv_iconst (v := (1 : Int32)) hx hb dL_law_1392 (by decide) ?_
        refine lv_iadd hx hb dL_law_1393 ?_
        obtain ⟨h220, hw⟩ := hw
        refine va_sld hx hb hX hbl hbA hS h220 dL_law_1394 ?_
        have hPx := z_perm_P z_lm hP
        have hDx := z_perm_D z_lm hD
        have hPc := (z_app_P hPx).1
        have hDc := (z_app_D hDx).1
        have hFc := z_free hDx hS hA
        refine va_calli (va_runV (As := [.int (xs (x4 + (1 : Int32)).toNatClampNeg)]) (rest := []) ⟨hx, hb, hml, hown, hts⟩ (c_X4_shownAtLast l D cs mq H.size M (xs (x4 + (1 : Int32)).toNatClampNeg) _ hw) (cwV 1 hts gL_law_X4_shownAtLast rfl rfl rfl (by decide +kernel) ⟨Nat.le_of_ble_eq_true rfl, Nat.le_of_ble_eq_true rfl⟩) (PC_V hPc hDc hKK 0 4 rfl rfl) rfl rfl hl.1 rfl (lv_room (Nat.le_of_ble_eq_true rfl)) dL_law_1395 ⟨by show _ ≤ 601024; omega, by show _ ≤ 7293034; omega⟩) hS (fun q _ h => hFc q h) hFc (fun r221 u221 t H locs ht hvm hw hB hz1 hk1 hS => ?_)
        obtain ⟨hP1, hD1⟩ := hB
        rw [ht] at hP1
        obtain ⟨hPx, hDx⟩ := z_join hPx hDx hk1 hFc hP1 hD1
        have hP : va_P D vwCl (w_Mod cs mq u221 ++ w_Out cs o u219_0 ++ w_Xo cs x tq h a u219_1 ++ w_Text cs tq u219_2 ++ w_Hist cs h a u219_3 ++ linesW cs a 18 u219_4) H := z_perm_P z_lmb hPx
        have hD : va_D (fun q : Nat => s.heap.size ≤ q) (w_Mod cs mq u221 ++ w_Out cs o u219_0 ++ w_Xo cs x tq h a u219_1 ++ w_Text cs tq u219_2 ++ w_Hist cs h a u219_3 ++ linesW cs a 18 u219_4) := z_perm_D z_lmb hDx
        refine lv_istore (lv' := [(6, .int r221), (5, .int r219), (0, .ref b), (1, .ref (x 0)), (2, .ref (mq 0)), (3, .ref o), (4, .int x4)]) hx hb dL_law_1398 hl (by decide) rfl (fun ls hl => ?_)
        refine lv_aload_n hx hb dL_law_1400 rfl (lv_at hl 4 rfl) ?_
        have hPx := z_perm_P z_lm hP
        have hDx := z_perm_D z_lm hD
        have hPc := (z_app_P hPx).1
        have hDc := (z_app_D hDx).1
        refine z_calli (va_runV (As := []) (rest := []) ⟨hx, hb, hml, hown, hts⟩ (c_X4_thrown l D cs mq H.size u221 _ hw) (cwV 0 hts gL_law_X4_thrown rfl rfl rfl (by decide +kernel) ⟨Nat.le_of_ble_eq_true rfl, Nat.le_of_ble_eq_true rfl⟩) (PC_V hPc hDc hKK 0 4 rfl rfl) rfl rfl hl.1 rfl (lv_room (Nat.le_of_ble_eq_true rfl)) dL_law_1401 ⟨by show _ ≤ 601024; omega, by show _ ≤ 7293034; omega⟩) (fun r222 hw => ?_)
        refine lv_iload hx hb dL_law_1404 (lv_at hl 1 rfl) ?_
        refine lv_icmp_eq (tgt := 1411) hx hb dL_law_1406 (by decide) (fun c223 => ?_) (fun c223 => ?_)
        · have hw := hw.1 c223
          refine lv_iload hx hb dL_law_1411 (lv_at hl 1 rfl) ?_
          refine lv_if_ne (tgt := 1428) hx hb dL_law_1413 (by decide) (fun c224 => ?_) (fun c224 => ?_)
          · have hw := hw.2 c224
            refine lv_goto (tgt := 1991) hx hb dL_law_1428 (by decide) ?_
            refine lv_iinc (v := x4 + 4) (lv' := [(4, .int (x4 + 4)), (6, .int r221), (5, .int r219), (0, .ref b), (1, .ref (x 0)), (2, .ref (mq 0)), (3, .ref o)]) hx hb dL_law_1991 hl (k := 6) rfl rfl (by decide) rfl (fun ls hl => ?_)
            refine lv_goto (tgt := 23) hx hb dL_law_1994 (by decide) ?_
            refine W.widen (k := 1000 + 3 * (j + 1)) (n := 20000 + 18 * (j + 1)) (by omega) (by omega) ?_
            exact ih _ _ _ _ _ _ _ (j + 1) (by omega) hw _ _ hP hD hS ls (lv_sub hl [3, 4, 5, 6, 0] rfl)
          · have hw := hw.1 c224
            refine lv_aload_n hx hb dL_law_1416 rfl (lv_at hl 5 rfl) ?_
            refine lv_iconst (v := (0 : Int32)) hx hb dL_law_1417 (by decide) ?_
            refine va_lald hx hb hK hP 9 3 rfl rfl (show vp_in (0 : Int32) 1 by unfold vp_in; decide) dL_law_1418 ?_
            refine lv_iload hx hb dL_law_1419 (lv_at hl 0 rfl) ?_
            refine lv_i2l (v := r221.toInt64) hx hb dL_law_1421 rfl ?_
            refine W.lcmp hx hb dL_law_1422 ?_
            refine lv_if_eq (tgt := 1428) hx hb dL_law_1423 (by decide) (fun c225 => ?_) (fun c225 => ?_)
            · have hw := hw.1 c225
              refine lv_goto (tgt := 1991) hx hb dL_law_1428 (by decide) ?_
              refine lv_iinc (v := x4 + 4) (lv' := [(4, .int (x4 + 4)), (6, .int r221), (5, .int r219), (0, .ref b), (1, .ref (x 0)), (2, .ref (mq 0)), (3, .ref o)]) hx hb dL_law_1991 hl (k := 6) rfl rfl (by decide) rfl (fun ls hl => ?_)
              refine lv_goto (tgt := 23) hx hb dL_law_1994 (by decide) ?_
              refine W.widen (k := 1000 + 3 * (j + 1)) (n := 20000 + 18 * (j + 1)) (by omega) (by omega) ?_
              exact ih _ _ _ _ _ _ _ (j + 1) (by omega) hw _ _ hP hD hS ls (lv_sub hl [3, 4, 5, 6, 0] rfl)
            · have hw := hw.2 c225
              refine lv_iconst (v := (0 : Int32)) hx hb dL_law_1426 (by decide) ?_
              exact False.elim hw
        · have hw := hw.2 c223
          refine lv_iconst (v := (0 : Int32)) hx hb dL_law_1409 (by decide) ?_
          exact False.elim hw
      have hw := hw.2 c3_21
      by_cases c3_22 : ((xs x4.toNatClampNeg) &&& (31 : Int32)) = 22
      · have hw := hw.1 c3_22
        refine lv_tableIn (off := 1392) (tgt := 1431) hx hb dL_law_39 (by rw [c3_22]; decide) (by rw [c3_22]; decide) (by rw [c3_22]; rfl) (by decide) ?_
        refine lv_aload_n hx hb dL_law_1431 rfl (lv_at hl 1 rfl) ?_
        refine lv_aload_n hx hb dL_law_1432 rfl (lv_at hl 0 rfl) ?_
        refine lv_iload hx hb dL_law_1433 (lv_at hl 4 rfl) ?_
        refine lv_iconst (v := (1 : Int32)) hx hb dL_law_1435 (by decide) ?_
        refine lv_iadd hx hb dL_law_1436 ?_
        obtain ⟨h226, hw⟩ := hw
        refine va_sld hx hb hX hbl hbA hS h226 dL_law_1437 ?_
        refine lv_aload_n hx hb dL_law_1438 rfl (lv_at hl 0 rfl) ?_
        refine lv_iload hx hb dL_law_1439 (lv_at hl 4 rfl) ?_
        refine lv_iconst (v := (2 : Int32)) hx hb dL_law_1441 (by decide) ?_
        refine lv_iadd hx hb dL_law_1442 ?_
        obtain ⟨h227, hw⟩ := hw
        refine va_sld hx hb hX hbl hbA hS h227 dL_law_1443 ?_
        refine lv_aload_n hx hb dL_law_1444 rfl (lv_at hl 3 rfl) ?_
        have hPx := z_perm_P z_lo hP
        have hDx := z_perm_D z_lo hD
        have hPc := (z_app_P hPx).1
        have hDc := (z_app_D hDx).1
        have hFc := z_free hDx hS hA
        refine vx_calli (vx_runSX (As := [.ref (x 0), .int (xs (x4 + (1 : Int32)).toNatClampNeg), .int (xs (x4 + (2 : Int32)).toNatClampNeg), .ref o]) (rest := []) ⟨hx, hb, hml, hown, hts⟩ (c_L_whenShown l hfl D cs o x tq h a H.size sa f S tx hs Ls (xs (x4 + (1 : Int32)).toNatClampNeg) (xs (x4 + (2 : Int32)).toNatClampNeg) _ hw) (vx_cwSW 4 hts gL_law_L_whenShown rfl rfl rfl (by decide +kernel) ⟨Nat.le_of_ble_eq_true rfl, Nat.le_of_ble_eq_true rfl⟩) (PX_S hPc hDc hKK hTW hTZ hS hFc) rfl rfl hl.1 rfl (lv_room (Nat.le_of_ble_eq_true rfl)) dL_law_1445 ⟨by show _ ≤ 601024; omega, by show _ ≤ 7293034; omega⟩) hS (fun q _ h => hFc q h) hFc (fun q _ h => hFc q h) ?_ (fun r228 u228 t H locs ht hvm hw hB hz1 hk1 hS => ?_)
        · intro E ce q9 u228 t H locs ht hvm hpx hB hz1 hk1 hS hq9 hce hcl
          exact hpx.elim
        obtain ⟨u228_0, u228_1, u228_2, u228_3, u228_4⟩ := u228
        obtain ⟨hP1, hD1⟩ := hB
        rw [ht] at hP1
        obtain ⟨hPx, hDx⟩ := z_join hPx hDx hk1 hFc hP1 hD1
        have hP : va_P D vwCl (w_Mod cs mq M ++ w_Out cs o u228_0 ++ w_Xo cs x tq h a u228_1 ++ w_Text cs tq u228_2 ++ w_Hist cs h a u228_3 ++ linesW cs a 18 u228_4) H := z_perm_P z_lob hPx
        have hD : va_D (fun q : Nat => s.heap.size ≤ q) (w_Mod cs mq M ++ w_Out cs o u228_0 ++ w_Xo cs x tq h a u228_1 ++ w_Text cs tq u228_2 ++ w_Hist cs h a u228_3 ++ linesW cs a 18 u228_4) := z_perm_D z_lob hDx
        refine lv_istore (lv' := [(5, .int r228), (0, .ref b), (1, .ref (x 0)), (2, .ref (mq 0)), (3, .ref o), (4, .int x4)]) hx hb dL_law_1448 hl (by decide) rfl (fun ls hl => ?_)
        refine lv_aload_n hx hb dL_law_1450 rfl (lv_at hl 3 rfl) ?_
        refine lv_aload_n hx hb dL_law_1451 rfl (lv_at hl 1 rfl) ?_
        refine lv_iload hx hb dL_law_1452 (lv_at hl 5 rfl) ?_
        refine lv_iconst (v := (1 : Int32)) hx hb dL_law_1454 (by decide) ?_
        refine lv_iadd hx hb dL_law_1455 ?_
        obtain ⟨h229, hw⟩ := hw
        refine va_sld hx hb hX hbl hbA hS h229 dL_law_1456 ?_
        refine lv_aload_n hx hb dL_law_1457 rfl (lv_at hl 1 rfl) ?_
        refine lv_iload hx hb dL_law_1458 (lv_at hl 5 rfl) ?_
        refine lv_iconst (v := (2 : Int32)) hx hb dL_law_1460 (by decide) ?_
        refine lv_iadd hx hb dL_law_1461 ?_
        obtain ⟨h230, hw⟩ := hw
        refine va_sld hx hb hX hbl hbA hS h230 dL_law_1462 ?_
        have hPx := z_perm_P z_lm hP
        have hDx := z_perm_D z_lm hD
        have hPc := (z_app_P hPx).1
        have hDc := (z_app_D hDx).1
        have hFc := z_free hDx hS hA
        refine va_calli (va_runV (As := [.int (xs (x4 + (1 : Int32)).toNatClampNeg), .int (xs (x4 + (2 : Int32)).toNatClampNeg)]) (rest := []) ⟨hx, hb, hml, hown, hts⟩ (c_X4_whenShown l D cs mq H.size M (xs (x4 + (1 : Int32)).toNatClampNeg) (xs (x4 + (2 : Int32)).toNatClampNeg) _ hw) (cwV 2 hts gL_law_X4_whenShown rfl rfl rfl (by decide +kernel) ⟨Nat.le_of_ble_eq_true rfl, Nat.le_of_ble_eq_true rfl⟩) (PC_V hPc hDc hKK 0 4 rfl rfl) rfl rfl hl.1 rfl (lv_room (Nat.le_of_ble_eq_true rfl)) dL_law_1463 ⟨by show _ ≤ 601024; omega, by show _ ≤ 7293034; omega⟩) hS (fun q _ h => hFc q h) hFc (fun r231 u231 t H locs ht hvm hw hB hz1 hk1 hS => ?_)
        obtain ⟨hP1, hD1⟩ := hB
        rw [ht] at hP1
        obtain ⟨hPx, hDx⟩ := z_join hPx hDx hk1 hFc hP1 hD1
        have hP : va_P D vwCl (w_Mod cs mq u231 ++ w_Out cs o u228_0 ++ w_Xo cs x tq h a u228_1 ++ w_Text cs tq u228_2 ++ w_Hist cs h a u228_3 ++ linesW cs a 18 u228_4) H := z_perm_P z_lmb hPx
        have hD : va_D (fun q : Nat => s.heap.size ≤ q) (w_Mod cs mq u231 ++ w_Out cs o u228_0 ++ w_Xo cs x tq h a u228_1 ++ w_Text cs tq u228_2 ++ w_Hist cs h a u228_3 ++ linesW cs a 18 u228_4) := z_perm_D z_lmb hDx
        refine lv_istore (lv' := [(6, .int r231), (5, .int r228), (0, .ref b), (1, .ref (x 0)), (2, .ref (mq 0)), (3, .ref o), (4, .int x4)]) hx hb dL_law_1466 hl (by decide) rfl (fun ls hl => ?_)
        refine lv_aload_n hx hb dL_law_1468 rfl (lv_at hl 4 rfl) ?_
        have hPx := z_perm_P z_lm hP
        have hDx := z_perm_D z_lm hD
        have hPc := (z_app_P hPx).1
        have hDc := (z_app_D hDx).1
        refine z_calli (va_runV (As := []) (rest := []) ⟨hx, hb, hml, hown, hts⟩ (c_X4_thrown l D cs mq H.size u231 _ hw) (cwV 0 hts gL_law_X4_thrown rfl rfl rfl (by decide +kernel) ⟨Nat.le_of_ble_eq_true rfl, Nat.le_of_ble_eq_true rfl⟩) (PC_V hPc hDc hKK 0 4 rfl rfl) rfl rfl hl.1 rfl (lv_room (Nat.le_of_ble_eq_true rfl)) dL_law_1469 ⟨by show _ ≤ 601024; omega, by show _ ≤ 7293034; omega⟩) (fun r232 hw => ?_)
        refine lv_iload hx hb dL_law_1472 (lv_at hl 1 rfl) ?_
        refine lv_icmp_eq (tgt := 1479) hx hb dL_law_1474 (by decide) (fun c233 => ?_) (fun c233 => ?_)
        · have hw := hw.1 c233
          refine lv_iload hx hb dL_law_1479 (lv_at hl 1 rfl) ?_
          refine lv_if_ne (tgt := 1496) hx hb dL_law_1481 (by decide) (fun c234 => ?_) (fun c234 => ?_)
          · have hw := hw.2 c234
            refine lv_goto (tgt := 1991) hx hb dL_law_1496 (by decide) ?_
            refine lv_iinc (v := x4 + 4) (lv' := [(4, .int (x4 + 4)), (6, .int r231), (5, .int r228), (0, .ref b), (1, .ref (x 0)), (2, .ref (mq 0)), (3, .ref o)]) hx hb dL_law_1991 hl (k := 6) rfl rfl (by decide) rfl (fun ls hl => ?_)
            refine lv_goto (tgt := 23) hx hb dL_law_1994 (by decide) ?_
            refine W.widen (k := 1000 + 3 * (j + 1)) (n := 20000 + 18 * (j + 1)) (by omega) (by omega) ?_
            exact ih _ _ _ _ _ _ _ (j + 1) (by omega) hw _ _ hP hD hS ls (lv_sub hl [3, 4, 5, 6, 0] rfl)
          · have hw := hw.1 c234
            refine lv_aload_n hx hb dL_law_1484 rfl (lv_at hl 5 rfl) ?_
            refine lv_iconst (v := (0 : Int32)) hx hb dL_law_1485 (by decide) ?_
            refine va_lald hx hb hK hP 9 3 rfl rfl (show vp_in (0 : Int32) 1 by unfold vp_in; decide) dL_law_1486 ?_
            refine lv_iload hx hb dL_law_1487 (lv_at hl 0 rfl) ?_
            refine lv_i2l (v := r231.toInt64) hx hb dL_law_1489 rfl ?_
            refine W.lcmp hx hb dL_law_1490 ?_
            refine lv_if_eq (tgt := 1496) hx hb dL_law_1491 (by decide) (fun c235 => ?_) (fun c235 => ?_)
            · have hw := hw.1 c235
              refine lv_goto (tgt := 1991) hx hb dL_law_1496 (by decide) ?_
              refine lv_iinc (v := x4 + 4) (lv' := [(4, .int (x4 + 4)), (6, .int r231), (5, .int r228), (0, .ref b), (1, .ref (x 0)), (2, .ref (mq 0)), (3, .ref o)]) hx hb dL_law_1991 hl (k := 6) rfl rfl (by decide) rfl (fun ls hl => ?_)
              refine lv_goto (tgt := 23) hx hb dL_law_1994 (by decide) ?_
              refine W.widen (k := 1000 + 3 * (j + 1)) (n := 20000 + 18 * (j + 1)) (by omega) (by omega) ?_
              exact ih _ _ _ _ _ _ _ (j + 1) (by omega) hw _ _ hP hD hS ls (lv_sub hl [3, 4, 5, 6, 0] rfl)
            · have hw := hw.2 c235
              refine lv_iconst (v := (0 : Int32)) hx hb dL_law_1494 (by decide) ?_
              exact False.elim hw
        · have hw := hw.2 c233
          refine lv_iconst (v := (0 : Int32)) hx hb dL_law_1477 (by decide) ?_
          exact False.elim hw
      have hw := hw.2 c3_22
      by_cases c3_23 : ((xs x4.toNatClampNeg) &&& (31 : Int32)) = 23
      · have hw := hw.1 c3_23
        refine lv_tableIn (off := 1460) (tgt := 1499) hx hb dL_law_39 (by rw [c3_23]; decide) (by rw [c3_23]; decide) (by rw [c3_23]; rfl) (by decide) ?_
        refine lv_aload_n hx hb dL_law_1499 rfl (lv_at hl 1 rfl) ?_
        refine lv_aload_n hx hb dL_law_1500 rfl (lv_at hl 0 rfl) ?_
        refine lv_iload hx hb dL_law_1501 (lv_at hl 4 rfl) ?_
        refine lv_iconst (v := (1 : Int32)) hx hb dL_law_1503 (by decide) ?_
        refine lv_iadd hx hb dL_law_1504 ?_
        obtain ⟨h236, hw⟩ := hw
        refine va_sld hx hb hX hbl hbA hS h236 dL_law_1505 ?_
        refine lv_aload_n hx hb dL_law_1506 rfl (lv_at hl 3 rfl) ?_
        have hPx := z_perm_P z_lo hP
        have hDx := z_perm_D z_lo hD
        have hPc := (z_app_P hPx).1
        have hDc := (z_app_D hDx).1
        have hFc := z_free hDx hS hA
        refine vx_calli (vx_runSX (As := [.ref (x 0), .int (xs (x4 + (1 : Int32)).toNatClampNeg), .ref o]) (rest := []) ⟨hx, hb, hml, hown, hts⟩ (c_L_leastPace l hfl D cs o x tq h a H.size sa f S tx hs Ls (xs (x4 + (1 : Int32)).toNatClampNeg) _ hw) (vx_cwSW 3 hts gL_law_L_leastPace rfl rfl rfl (by decide +kernel) ⟨Nat.le_of_ble_eq_true rfl, Nat.le_of_ble_eq_true rfl⟩) (PX_S hPc hDc hKK hTW hTZ hS hFc) rfl rfl hl.1 rfl (lv_room (Nat.le_of_ble_eq_true rfl)) dL_law_1507 ⟨by show _ ≤ 601024; omega, by show _ ≤ 7293034; omega⟩) hS (fun q _ h => hFc q h) hFc (fun q _ h => hFc q h) ?_ (fun r237 u237 t H locs ht hvm hw hB hz1 hk1 hS => ?_)
        · intro E ce q9 u237 t H locs ht hvm hpx hB hz1 hk1 hS hq9 hce hcl
          exact hpx.elim
        obtain ⟨u237_0, u237_1, u237_2, u237_3, u237_4⟩ := u237
        obtain ⟨hP1, hD1⟩ := hB
        rw [ht] at hP1
        obtain ⟨hPx, hDx⟩ := z_join hPx hDx hk1 hFc hP1 hD1
        have hP : va_P D vwCl (w_Mod cs mq M ++ w_Out cs o u237_0 ++ w_Xo cs x tq h a u237_1 ++ w_Text cs tq u237_2 ++ w_Hist cs h a u237_3 ++ linesW cs a 18 u237_4) H := z_perm_P z_lob hPx
        have hD : va_D (fun q : Nat => s.heap.size ≤ q) (w_Mod cs mq M ++ w_Out cs o u237_0 ++ w_Xo cs x tq h a u237_1 ++ w_Text cs tq u237_2 ++ w_Hist cs h a u237_3 ++ linesW cs a 18 u237_4) := z_perm_D z_lob hDx
        refine lv_istore (lv' := [(5, .int r237), (0, .ref b), (1, .ref (x 0)), (2, .ref (mq 0)), (3, .ref o), (4, .int x4)]) hx hb dL_law_1510 hl (by decide) rfl (fun ls hl => ?_)
        refine lv_aload_n hx hb dL_law_1512 rfl (lv_at hl 3 rfl) ?_
        refine lv_aload_n hx hb dL_law_1513 rfl (lv_at hl 1 rfl) ?_
        refine lv_iload hx hb dL_law_1514 (lv_at hl 5 rfl) ?_
        refine lv_iconst (v := (1 : Int32)) hx hb dL_law_1516 (by decide) ?_
        refine lv_iadd hx hb dL_law_1517 ?_
        obtain ⟨h238, hw⟩ := hw
        refine va_sld hx hb hX hbl hbA hS h238 dL_law_1518 ?_
        have hPx := z_perm_P z_lm hP
        have hDx := z_perm_D z_lm hD
        have hPc := (z_app_P hPx).1
        have hDc := (z_app_D hDx).1
        have hFc := z_free hDx hS hA
        refine va_calli (va_runV (As := [.int (xs (x4 + (1 : Int32)).toNatClampNeg)]) (rest := []) ⟨hx, hb, hml, hown, hts⟩ (c_X4_leastPace l D cs mq H.size M (xs (x4 + (1 : Int32)).toNatClampNeg) _ hw) (cwV 1 hts gL_law_X4_leastPace rfl rfl rfl (by decide +kernel) ⟨Nat.le_of_ble_eq_true rfl, Nat.le_of_ble_eq_true rfl⟩) (PC_V hPc hDc hKK 0 4 rfl rfl) rfl rfl hl.1 rfl (lv_room (Nat.le_of_ble_eq_true rfl)) dL_law_1519 ⟨by show _ ≤ 601024; omega, by show _ ≤ 7293034; omega⟩) hS (fun q _ h => hFc q h) hFc (fun r239 u239 t H locs ht hvm hw hB hz1 hk1 hS => ?_)
        obtain ⟨hP1, hD1⟩ := hB
        rw [ht] at hP1
        obtain ⟨hPx, hDx⟩ := z_join hPx hDx hk1 hFc hP1 hD1
        have hP : va_P D vwCl (w_Mod cs mq u239 ++ w_Out cs o u237_0 ++ w_Xo cs x tq h a u237_1 ++ w_Text cs tq u237_2 ++ w_Hist cs h a u237_3 ++ linesW cs a 18 u237_4) H := z_perm_P z_lmb hPx
        have hD : va_D (fun q : Nat => s.heap.size ≤ q) (w_Mod cs mq u239 ++ w_Out cs o u237_0 ++ w_Xo cs x tq h a u237_1 ++ w_Text cs tq u237_2 ++ w_Hist cs h a u237_3 ++ linesW cs a 18 u237_4) := z_perm_D z_lmb hDx
        refine lv_istore (lv' := [(6, .int r239), (5, .int r237), (0, .ref b), (1, .ref (x 0)), (2, .ref (mq 0)), (3, .ref o), (4, .int x4)]) hx hb dL_law_1522 hl (by decide) rfl (fun ls hl => ?_)
        refine lv_aload_n hx hb dL_law_1524 rfl (lv_at hl 4 rfl) ?_
        have hPx := z_perm_P z_lm hP
        have hDx := z_perm_D z_lm hD
        have hPc := (z_app_P hPx).1
        have hDc := (z_app_D hDx).1
        refine z_calli (va_runV (As := []) (rest := []) ⟨hx, hb, hml, hown, hts⟩ (c_X4_thrown l D cs mq H.size u239 _ hw) (cwV 0 hts gL_law_X4_thrown rfl rfl rfl (by decide +kernel) ⟨Nat.le_of_ble_eq_true rfl, Nat.le_of_ble_eq_true rfl⟩) (PC_V hPc hDc hKK 0 4 rfl rfl) rfl rfl hl.1 rfl (lv_room (Nat.le_of_ble_eq_true rfl)) dL_law_1525 ⟨by show _ ≤ 601024; omega, by show _ ≤ 7293034; omega⟩) (fun r240 hw => ?_)
        refine lv_iload hx hb dL_law_1528 (lv_at hl 1 rfl) ?_
        refine lv_icmp_eq (tgt := 1535) hx hb dL_law_1530 (by decide) (fun c241 => ?_) (fun c241 => ?_)
        · have hw := hw.1 c241
          refine lv_iload hx hb dL_law_1535 (lv_at hl 1 rfl) ?_
          refine lv_if_ne (tgt := 1552) hx hb dL_law_1537 (by decide) (fun c242 => ?_) (fun c242 => ?_)
          · have hw := hw.2 c242
            refine lv_goto (tgt := 1991) hx hb dL_law_1552 (by decide) ?_
            refine lv_iinc (v := x4 + 4) (lv' := [(4, .int (x4 + 4)), (6, .int r239), (5, .int r237), (0, .ref b), (1, .ref (x 0)), (2, .ref (mq 0)), (3, .ref o)]) hx hb dL_law_1991 hl (k := 6) rfl rfl (by decide) rfl (fun ls hl => ?_)
            refine lv_goto (tgt := 23) hx hb dL_law_1994 (by decide) ?_
            refine W.widen (k := 1000 + 3 * (j + 1)) (n := 20000 + 18 * (j + 1)) (by omega) (by omega) ?_
            exact ih _ _ _ _ _ _ _ (j + 1) (by omega) hw _ _ hP hD hS ls (lv_sub hl [3, 4, 5, 6, 0] rfl)
          · have hw := hw.1 c242
            refine lv_aload_n hx hb dL_law_1540 rfl (lv_at hl 5 rfl) ?_
            refine lv_iconst (v := (0 : Int32)) hx hb dL_law_1541 (by decide) ?_
            refine va_lald hx hb hK hP 9 3 rfl rfl (show vp_in (0 : Int32) 1 by unfold vp_in; decide) dL_law_1542 ?_
            refine lv_iload hx hb dL_law_1543 (lv_at hl 0 rfl) ?_
            refine lv_i2l (v := r239.toInt64) hx hb dL_law_1545 rfl ?_
            refine W.lcmp hx hb dL_law_1546 ?_
            refine lv_if_eq (tgt := 1552) hx hb dL_law_1547 (by decide) (fun c243 => ?_) (fun c243 => ?_)
            · have hw := hw.1 c243
              refine lv_goto (tgt := 1991) hx hb dL_law_1552 (by decide) ?_
              refine lv_iinc (v := x4 + 4) (lv' := [(4, .int (x4 + 4)), (6, .int r239), (5, .int r237), (0, .ref b), (1, .ref (x 0)), (2, .ref (mq 0)), (3, .ref o)]) hx hb dL_law_1991 hl (k := 6) rfl rfl (by decide) rfl (fun ls hl => ?_)
              refine lv_goto (tgt := 23) hx hb dL_law_1994 (by decide) ?_
              refine W.widen (k := 1000 + 3 * (j + 1)) (n := 20000 + 18 * (j + 1)) (by omega) (by omega) ?_
              exact ih _ _ _ _ _ _ _ (j + 1) (by omega) hw _ _ hP hD hS ls (lv_sub hl [3, 4, 5, 6, 0] rfl)
            · have hw := hw.2 c243
              refine lv_iconst (v := (0 : Int32)) hx hb dL_law_1550 (by decide) ?_
              exact False.elim hw
        · have hw := hw.2 c241
          refine lv_iconst (v := (0 : Int32)) hx hb dL_law_1533 (by decide) ?_
          exact False.elim hw
      have hw := hw.2 c3_23
      by_cases c3_24 : ((xs x4.toNatClampNeg) &&& (31 : Int32)) = 24
      · have hw := hw.1 c3_24
        refine lv_tableIn (off := 1516) (tgt := 1555) hx hb dL_law_39 (by rw [c3_24]; decide) (by rw [c3_24]; decide) (by rw [c3_24]; rfl) (by decide) ?_
        refine lv_aload_n hx hb dL_law_1555 rfl (lv_at hl 1 rfl) ?_
        refine lv_aload_n hx hb dL_law_1556 rfl (lv_at hl 0 rfl) ?_
        refine lv_iload hx hb dL_law_1557 (lv_at hl 4 rfl) ?_
        refine lv_iconst (v := (1 : Int32)) hx hb dL_law_1559 (by decide) ?_
        refine lv_iadd hx hb dL_law_1560 ?_
        obtain ⟨h244, hw⟩ := hw
        refine va_sld hx hb hX hbl hbA hS h244 dL_law_1561 ?_
        refine lv_aload_n hx hb dL_law_1562 rfl (lv_at hl 3 rfl) ?_
        have hPx := z_perm_P z_lo hP
        have hDx := z_perm_D z_lo hD
        have hPc := (z_app_P hPx).1
        have hDc := (z_app_D hDx).1
        have hFc := z_free hDx hS hA
        refine vx_calli (vx_runSX (As := [.ref (x 0), .int (xs (x4 + (1 : Int32)).toNatClampNeg), .ref o]) (rest := []) ⟨hx, hb, hml, hown, hts⟩ (c_L_slowest l hfl D cs o x tq h a H.size sa f S tx hs Ls (xs (x4 + (1 : Int32)).toNatClampNeg) _ hw) (vx_cwSW 3 hts gL_law_L_slowest rfl rfl rfl (by decide +kernel) ⟨Nat.le_of_ble_eq_true rfl, Nat.le_of_ble_eq_true rfl⟩) (PX_S hPc hDc hKK hTW hTZ hS hFc) rfl rfl hl.1 rfl (lv_room (Nat.le_of_ble_eq_true rfl)) dL_law_1563 ⟨by show _ ≤ 601024; omega, by show _ ≤ 7293034; omega⟩) hS (fun q _ h => hFc q h) hFc (fun q _ h => hFc q h) ?_ (fun r245 u245 t H locs ht hvm hw hB hz1 hk1 hS => ?_)
        · intro E ce q9 u245 t H locs ht hvm hpx hB hz1 hk1 hS hq9 hce hcl
          exact hpx.elim
        obtain ⟨u245_0, u245_1, u245_2, u245_3, u245_4⟩ := u245
        obtain ⟨hP1, hD1⟩ := hB
        rw [ht] at hP1
        obtain ⟨hPx, hDx⟩ := z_join hPx hDx hk1 hFc hP1 hD1
        have hP : va_P D vwCl (w_Mod cs mq M ++ w_Out cs o u245_0 ++ w_Xo cs x tq h a u245_1 ++ w_Text cs tq u245_2 ++ w_Hist cs h a u245_3 ++ linesW cs a 18 u245_4) H := z_perm_P z_lob hPx
        have hD : va_D (fun q : Nat => s.heap.size ≤ q) (w_Mod cs mq M ++ w_Out cs o u245_0 ++ w_Xo cs x tq h a u245_1 ++ w_Text cs tq u245_2 ++ w_Hist cs h a u245_3 ++ linesW cs a 18 u245_4) := z_perm_D z_lob hDx
        refine lv_istore (lv' := [(5, .int r245), (0, .ref b), (1, .ref (x 0)), (2, .ref (mq 0)), (3, .ref o), (4, .int x4)]) hx hb dL_law_1566 hl (by decide) rfl (fun ls hl => ?_)
        refine lv_aload_n hx hb dL_law_1568 rfl (lv_at hl 3 rfl) ?_
        refine lv_aload_n hx hb dL_law_1569 rfl (lv_at hl 1 rfl) ?_
        refine lv_iload hx hb dL_law_1570 (lv_at hl 5 rfl) ?_
        refine lv_iconst (v := (1 : Int32)) hx hb dL_law_1572 (by decide) ?_
        refine lv_iadd hx hb dL_law_1573 ?_
        obtain ⟨h246, hw⟩ := hw
        refine va_sld hx hb hX hbl hbA hS h246 dL_law_1574 ?_
        have hPx := z_perm_P z_lm hP
        have hDx := z_perm_D z_lm hD
        have hPc := (z_app_P hPx).1
        have hDc := (z_app_D hDx).1
        have hFc := z_free hDx hS hA
        refine va_calli (va_runV (As := [.int (xs (x4 + (1 : Int32)).toNatClampNeg)]) (rest := []) ⟨hx, hb, hml, hown, hts⟩ (c_X4_slowest l D cs mq H.size M (xs (x4 + (1 : Int32)).toNatClampNeg) _ hw) (cwV 1 hts gL_law_X4_slowest rfl rfl rfl (by decide +kernel) ⟨Nat.le_of_ble_eq_true rfl, Nat.le_of_ble_eq_true rfl⟩) (PC_V hPc hDc hKK 0 4 rfl rfl) rfl rfl hl.1 rfl (lv_room (Nat.le_of_ble_eq_true rfl)) dL_law_1575 ⟨by show _ ≤ 601024; omega, by show _ ≤ 7293034; omega⟩) hS (fun q _ h => hFc q h) hFc (fun r247 u247 t H locs ht hvm hw hB hz1 hk1 hS => ?_)
        obtain ⟨hP1, hD1⟩ := hB
        rw [ht] at hP1
        obtain ⟨hPx, hDx⟩ := z_join hPx hDx hk1 hFc hP1 hD1
        have hP : va_P D vwCl (w_Mod cs mq u247 ++ w_Out cs o u245_0 ++ w_Xo cs x tq h a u245_1 ++ w_Text cs tq u245_2 ++ w_Hist cs h a u245_3 ++ linesW cs a 18 u245_4) H := z_perm_P z_lmb hPx
        have hD : va_D (fun q : Nat => s.heap.size ≤ q) (w_Mod cs mq u247 ++ w_Out cs o u245_0 ++ w_Xo cs x tq h a u245_1 ++ w_Text cs tq u245_2 ++ w_Hist cs h a u245_3 ++ linesW cs a 18 u245_4) := z_perm_D z_lmb hDx
        refine lv_istore (lv' := [(6, .int r247), (5, .int r245), (0, .ref b), (1, .ref (x 0)), (2, .ref (mq 0)), (3, .ref o), (4, .int x4)]) hx hb dL_law_1578 hl (by decide) rfl (fun ls hl => ?_)
        refine lv_aload_n hx hb dL_law_1580 rfl (lv_at hl 4 rfl) ?_
        have hPx := z_perm_P z_lm hP
        have hDx := z_perm_D z_lm hD
        have hPc := (z_app_P hPx).1
        have hDc := (z_app_D hDx).1
        refine z_calli (va_runV (As := []) (rest := []) ⟨hx, hb, hml, hown, hts⟩ (c_X4_thrown l D cs mq H.size u247 _ hw) (cwV 0 hts gL_law_X4_thrown rfl rfl rfl (by decide +kernel) ⟨Nat.le_of_ble_eq_true rfl, Nat.le_of_ble_eq_true rfl⟩) (PC_V hPc hDc hKK 0 4 rfl rfl) rfl rfl hl.1 rfl (lv_room (Nat.le_of_ble_eq_true rfl)) dL_law_1581 ⟨by show _ ≤ 601024; omega, by show _ ≤ 7293034; omega⟩) (fun r248 hw => ?_)
        refine lv_iload hx hb dL_law_1584 (lv_at hl 1 rfl) ?_
        refine lv_icmp_eq (tgt := 1591) hx hb dL_law_1586 (by decide) (fun c249 => ?_) (fun c249 => ?_)
        · have hw := hw.1 c249
          refine lv_iload hx hb dL_law_1591 (lv_at hl 1 rfl) ?_
          refine lv_if_ne (tgt := 1608) hx hb dL_law_1593 (by decide) (fun c250 => ?_) (fun c250 => ?_)
          · have hw := hw.2 c250
            refine lv_goto (tgt := 1991) hx hb dL_law_1608 (by decide) ?_
            refine lv_iinc (v := x4 + 4) (lv' := [(4, .int (x4 + 4)), (6, .int r247), (5, .int r245), (0, .ref b), (1, .ref (x 0)), (2, .ref (mq 0)), (3, .ref o)]) hx hb dL_law_1991 hl (k := 6) rfl rfl (by decide) rfl (fun ls hl => ?_)
            refine lv_goto (tgt := 23) hx hb dL_law_1994 (by decide) ?_
            refine W.widen (k := 1000 + 3 * (j + 1)) (n := 20000 + 18 * (j + 1)) (by omega) (by omega) ?_
            exact ih _ _ _ _ _ _ _ (j + 1) (by omega) hw _ _ hP hD hS ls (lv_sub hl [3, 4, 5, 6, 0] rfl)
          · have hw := hw.1 c250
            refine lv_aload_n hx hb dL_law_1596 rfl (lv_at hl 5 rfl) ?_
            refine lv_iconst (v := (0 : Int32)) hx hb dL_law_1597 (by decide) ?_
            refine va_lald hx hb hK hP 9 3 rfl rfl (show vp_in (0 : Int32) 1 by unfold vp_in; decide) dL_law_1598 ?_
            refine lv_iload hx hb dL_law_1599 (lv_at hl 0 rfl) ?_
            refine lv_i2l (v := r247.toInt64) hx hb dL_law_1601 rfl ?_
            refine W.lcmp hx hb dL_law_1602 ?_
            refine lv_if_eq (tgt := 1608) hx hb dL_law_1603 (by decide) (fun c251 => ?_) (fun c251 => ?_)
            · have hw := hw.1 c251
              refine lv_goto (tgt := 1991) hx hb dL_law_1608 (by decide) ?_
              refine lv_iinc (v := x4 + 4) (lv' := [(4, .int (x4 + 4)), (6, .int r247), (5, .int r245), (0, .ref b), (1, .ref (x 0)), (2, .ref (mq 0)), (3, .ref o)]) hx hb dL_law_1991 hl (k := 6) rfl rfl (by decide) rfl (fun ls hl => ?_)
              refine lv_goto (tgt := 23) hx hb dL_law_1994 (by decide) ?_
              refine W.widen (k := 1000 + 3 * (j + 1)) (n := 20000 + 18 * (j + 1)) (by omega) (by omega) ?_
              exact ih _ _ _ _ _ _ _ (j + 1) (by omega) hw _ _ hP hD hS ls (lv_sub hl [3, 4, 5, 6, 0] rfl)
            · have hw := hw.2 c251
              refine lv_iconst (v := (0 : Int32)) hx hb dL_law_1606 (by decide) ?_
              exact False.elim hw
        · have hw := hw.2 c249
          refine lv_iconst (v := (0 : Int32)) hx hb dL_law_1589 (by decide) ?_
          exact False.elim hw
      have hw := hw.2 c3_24
      by_cases c3_25 : ((xs x4.toNatClampNeg) &&& (31 : Int32)) = 25
      · have hw := hw.1 c3_25
        refine lv_tableIn (off := 1572) (tgt := 1611) hx hb dL_law_39 (by rw [c3_25]; decide) (by rw [c3_25]; decide) (by rw [c3_25]; rfl) (by decide) ?_
        refine lv_aload_n hx hb dL_law_1611 rfl (lv_at hl 1 rfl) ?_
        refine lv_aload_n hx hb dL_law_1612 rfl (lv_at hl 0 rfl) ?_
        refine lv_iload hx hb dL_law_1613 (lv_at hl 4 rfl) ?_
        refine lv_iconst (v := (1 : Int32)) hx hb dL_law_1615 (by decide) ?_
        refine lv_iadd hx hb dL_law_1616 ?_
        obtain ⟨h252, hw⟩ := hw
        refine va_sld hx hb hX hbl hbA hS h252 dL_law_1617 ?_
        refine lv_aload_n hx hb dL_law_1618 rfl (lv_at hl 0 rfl) ?_
        refine lv_iload hx hb dL_law_1619 (lv_at hl 4 rfl) ?_
        refine lv_iconst (v := (2 : Int32)) hx hb dL_law_1621 (by decide) ?_
        refine lv_iadd hx hb dL_law_1622 ?_
        obtain ⟨h253, hw⟩ := hw
        refine va_sld hx hb hX hbl hbA hS h253 dL_law_1623 ?_
        refine lv_aload_n hx hb dL_law_1624 rfl (lv_at hl 3 rfl) ?_
        have hPx := z_perm_P z_lo hP
        have hDx := z_perm_D z_lo hD
        have hPc := (z_app_P hPx).1
        have hDc := (z_app_D hDx).1
        have hFc := z_free hDx hS hA
        refine vx_calli (vx_runSX (As := [.ref (x 0), .int (xs (x4 + (1 : Int32)).toNatClampNeg), .int (xs (x4 + (2 : Int32)).toNatClampNeg), .ref o]) (rest := []) ⟨hx, hb, hml, hown, hts⟩ (c_L_doubles l hfl D cs o x tq h a H.size sa f S tx hs Ls (xs (x4 + (1 : Int32)).toNatClampNeg) (xs (x4 + (2 : Int32)).toNatClampNeg) _ hw) (vx_cwSW 4 hts gL_law_L_doubles rfl rfl rfl (by decide +kernel) ⟨Nat.le_of_ble_eq_true rfl, Nat.le_of_ble_eq_true rfl⟩) (PX_S hPc hDc hKK hTW hTZ hS hFc) rfl rfl hl.1 rfl (lv_room (Nat.le_of_ble_eq_true rfl)) dL_law_1625 ⟨by show _ ≤ 601024; omega, by show _ ≤ 7293034; omega⟩) hS (fun q _ h => hFc q h) hFc (fun q _ h => hFc q h) ?_ (fun r254 u254 t H locs ht hvm hw hB hz1 hk1 hS => ?_)
        · intro E ce q9 u254 t H locs ht hvm hpx hB hz1 hk1 hS hq9 hce hcl
          exact hpx.elim
        obtain ⟨u254_0, u254_1, u254_2, u254_3, u254_4⟩ := u254
        obtain ⟨hP1, hD1⟩ := hB
        rw [ht] at hP1
        obtain ⟨hPx, hDx⟩ := z_join hPx hDx hk1 hFc hP1 hD1
        have hP : va_P D vwCl (w_Mod cs mq M ++ w_Out cs o u254_0 ++ w_Xo cs x tq h a u254_1 ++ w_Text cs tq u254_2 ++ w_Hist cs h a u254_3 ++ linesW cs a 18 u254_4) H := z_perm_P z_lob hPx
        have hD : va_D (fun q : Nat => s.heap.size ≤ q) (w_Mod cs mq M ++ w_Out cs o u254_0 ++ w_Xo cs x tq h a u254_1 ++ w_Text cs tq u254_2 ++ w_Hist cs h a u254_3 ++ linesW cs a 18 u254_4) := z_perm_D z_lob hDx
        refine lv_istore (lv' := [(5, .int r254), (0, .ref b), (1, .ref (x 0)), (2, .ref (mq 0)), (3, .ref o), (4, .int x4)]) hx hb dL_law_1628 hl (by decide) rfl (fun ls hl => ?_)
        refine lv_aload_n hx hb dL_law_1630 rfl (lv_at hl 3 rfl) ?_
        refine lv_aload_n hx hb dL_law_1631 rfl (lv_at hl 1 rfl) ?_
        refine lv_iload hx hb dL_law_1632 (lv_at hl 5 rfl) ?_
        refine lv_iconst (v := (1 : Int32)) hx hb dL_law_1634 (by decide) ?_
        refine lv_iadd hx hb dL_law_1635 ?_
        obtain ⟨h255, hw⟩ := hw
        refine va_sld hx hb hX hbl hbA hS h255 dL_law_1636 ?_
        refine lv_aload_n hx hb dL_law_1637 rfl (lv_at hl 1 rfl) ?_
        refine lv_iload hx hb dL_law_1638 (lv_at hl 5 rfl) ?_
        refine lv_iconst (v := (2 : Int32)) hx hb dL_law_1640 (by decide) ?_
        refine lv_iadd hx hb dL_law_1641 ?_
        obtain ⟨h256, hw⟩ := hw
        refine va_sld hx hb hX hbl hbA hS h256 dL_law_1642 ?_
        have hPx := z_perm_P z_lm hP
        have hDx := z_perm_D z_lm hD
        have hPc := (z_app_P hPx).1
        have hDc := (z_app_D hDx).1
        have hFc := z_free hDx hS hA
        refine va_calli (va_runV (As := [.int (xs (x4 + (1 : Int32)).toNatClampNeg), .int (xs (x4 + (2 : Int32)).toNatClampNeg)]) (rest := []) ⟨hx, hb, hml, hown, hts⟩ (c_X4_doubles l D cs mq H.size M (xs (x4 + (1 : Int32)).toNatClampNeg) (xs (x4 + (2 : Int32)).toNatClampNeg) _ hw) (cwV 2 hts gL_law_X4_doubles rfl rfl rfl (by decide +kernel) ⟨Nat.le_of_ble_eq_true rfl, Nat.le_of_ble_eq_true rfl⟩) (PC_V hPc hDc hKK 0 4 rfl rfl) rfl rfl hl.1 rfl (lv_room (Nat.le_of_ble_eq_true rfl)) dL_law_1643 ⟨by show _ ≤ 601024; omega, by show _ ≤ 7293034; omega⟩) hS (fun q _ h => hFc q h) hFc (fun r257 u257 t H locs ht hvm hw hB hz1 hk1 hS => ?_)
        obtain ⟨hP1, hD1⟩ := hB
        rw [ht] at hP1
        obtain ⟨hPx, hDx⟩ := z_join hPx hDx hk1 hFc hP1 hD1
        have hP : va_P D vwCl (w_Mod cs mq u257 ++ w_Out cs o u254_0 ++ w_Xo cs x tq h a u254_1 ++ w_Text cs tq u254_2 ++ w_Hist cs h a u254_3 ++ linesW cs a 18 u254_4) H := z_perm_P z_lmb hPx
        have hD : va_D (fun q : Nat => s.heap.size ≤ q) (w_Mod cs mq u257 ++ w_Out cs o u254_0 ++ w_Xo cs x tq h a u254_1 ++ w_Text cs tq u254_2 ++ w_Hist cs h a u254_3 ++ linesW cs a 18 u254_4) := z_perm_D z_lmb hDx
        refine lv_istore (lv' := [(6, .int r257), (5, .int r254), (0, .ref b), (1, .ref (x 0)), (2, .ref (mq 0)), (3, .ref o), (4, .int x4)]) hx hb dL_law_1646 hl (by decide) rfl (fun ls hl => ?_)
        refine lv_aload_n hx hb dL_law_1648 rfl (lv_at hl 4 rfl) ?_
        have hPx := z_perm_P z_lm hP
        have hDx := z_perm_D z_lm hD
        have hPc := (z_app_P hPx).1
        have hDc := (z_app_D hDx).1
        refine z_calli (va_runV (As := []) (rest := []) ⟨hx, hb, hml, hown, hts⟩ (c_X4_thrown l D cs mq H.size u257 _ hw) (cwV 0 hts gL_law_X4_thrown rfl rfl rfl (by decide +kernel) ⟨Nat.le_of_ble_eq_true rfl, Nat.le_of_ble_eq_true rfl⟩) (PC_V hPc hDc hKK 0 4 rfl rfl) rfl rfl hl.1 rfl (lv_room (Nat.le_of_ble_eq_true rfl)) dL_law_1649 ⟨by show _ ≤ 601024; omega, by show _ ≤ 7293034; omega⟩) (fun r258 hw => ?_)
        refine lv_iload hx hb dL_law_1652 (lv_at hl 1 rfl) ?_
        refine lv_icmp_eq (tgt := 1659) hx hb dL_law_1654 (by decide) (fun c259 => ?_) (fun c259 => ?_)
        · have hw := hw.1 c259
          refine lv_iload hx hb dL_law_1659 (lv_at hl 1 rfl) ?_
          refine lv_if_ne (tgt := 1676) hx hb dL_law_1661 (by decide) (fun c260 => ?_) (fun c260 => ?_)
          · have hw := hw.2 c260
            refine lv_goto (tgt := 1991) hx hb dL_law_1676 (by decide) ?_
            refine lv_iinc (v := x4 + 4) (lv' := [(4, .int (x4 + 4)), (6, .int r257), (5, .int r254), (0, .ref b), (1, .ref (x 0)), (2, .ref (mq 0)), (3, .ref o)]) hx hb dL_law_1991 hl (k := 6) rfl rfl (by decide) rfl (fun ls hl => ?_)
            refine lv_goto (tgt := 23) hx hb dL_law_1994 (by decide) ?_
            refine W.widen (k := 1000 + 3 * (j + 1)) (n := 20000 + 18 * (j + 1)) (by omega) (by omega) ?_
            exact ih _ _ _ _ _ _ _ (j + 1) (by omega) hw _ _ hP hD hS ls (lv_sub hl [3, 4, 5, 6, 0] rfl)
          · have hw := hw.1 c260
            refine lv_aload_n hx hb dL_law_1664 rfl (lv_at hl 5 rfl) ?_
            refine lv_iconst (v := (0 : Int32)) hx hb dL_law_1665 (by decide) ?_
            refine va_lald hx hb hK hP 9 3 rfl rfl (show vp_in (0 : Int32) 1 by unfold vp_in; decide) dL_law_1666 ?_
            refine lv_iload hx hb dL_law_1667 (lv_at hl 0 rfl) ?_
            refine lv_i2l (v := r257.toInt64) hx hb dL_law_1669 rfl ?_
            refine W.lcmp hx hb dL_law_1670 ?_
            refine lv_if_eq (tgt := 1676) hx hb dL_law_1671 (by decide) (fun c261 => ?_) (fun c261 => ?_)
            · have hw := hw.1 c261
              refine lv_goto (tgt := 1991) hx hb dL_law_1676 (by decide) ?_
              refine lv_iinc (v := x4 + 4) (lv' := [(4, .int (x4 + 4)), (6, .int r257), (5, .int r254), (0, .ref b), (1, .ref (x 0)), (2, .ref (mq 0)), (3, .ref o)]) hx hb dL_law_1991 hl (k := 6) rfl rfl (by decide) rfl (fun ls hl => ?_)
              refine lv_goto (tgt := 23) hx hb dL_law_1994 (by decide) ?_
              refine W.widen (k := 1000 + 3 * (j + 1)) (n := 20000 + 18 * (j + 1)) (by omega) (by omega) ?_
              exact ih _ _ _ _ _ _ _ (j + 1) (by omega) hw _ _ hP hD hS ls (lv_sub hl [3, 4, 5, 6, 0] rfl)
            · have hw := hw.2 c261
              refine lv_iconst (v := (0 : Int32)) hx hb dL_law_1674 (by decide) ?_
              exact False.elim hw
        · have hw := hw.2 c259
          refine lv_iconst (v := (0 : Int32)) hx hb dL_law_1657 (by decide) ?_
          exact False.elim hw
      have hw := hw.2 c3_25
      by_cases c3_26 : ((xs x4.toNatClampNeg) &&& (31 : Int32)) = 26
      · have hw := hw.1 c3_26
        refine lv_tableIn (off := 1640) (tgt := 1679) hx hb dL_law_39 (by rw [c3_26]; decide) (by rw [c3_26]; decide) (by rw [c3_26]; rfl) (by decide) ?_
        refine lv_aload_n hx hb dL_law_1679 rfl (lv_at hl 1 rfl) ?_
        refine lv_aload_n hx hb dL_law_1680 rfl (lv_at hl 0 rfl) ?_
        refine lv_iload hx hb dL_law_1681 (lv_at hl 4 rfl) ?_
        refine lv_iconst (v := (1 : Int32)) hx hb dL_law_1683 (by decide) ?_
        refine lv_iadd hx hb dL_law_1684 ?_
        obtain ⟨h262, hw⟩ := hw
        refine va_sld hx hb hX hbl hbA hS h262 dL_law_1685 ?_
        refine lv_aload_n hx hb dL_law_1686 rfl (lv_at hl 0 rfl) ?_
        refine lv_iload hx hb dL_law_1687 (lv_at hl 4 rfl) ?_
        refine lv_iconst (v := (2 : Int32)) hx hb dL_law_1689 (by decide) ?_
        refine lv_iadd hx hb dL_law_1690 ?_
        obtain ⟨h263, hw⟩ := hw
        refine va_sld hx hb hX hbl hbA hS h263 dL_law_1691 ?_
        refine lv_i2l (v := (xs (x4 + (2 : Int32)).toNatClampNeg).toInt64) hx hb dL_law_1692 rfl ?_
        refine lv_bipush (v := (32 : Int32)) hx hb dL_law_1693 (by decide) ?_
        refine lv_lshl (v := ((xs (x4 + (2 : Int32)).toNatClampNeg).toInt64) <<< ((32 : Int32).toInt64 &&& 63)) hx hb dL_law_1695 rfl ?_
        refine lv_aload_n hx hb dL_law_1696 rfl (lv_at hl 0 rfl) ?_
        refine lv_iload hx hb dL_law_1697 (lv_at hl 4 rfl) ?_
        refine lv_iconst (v := (3 : Int32)) hx hb dL_law_1699 (by decide) ?_
        refine lv_iadd hx hb dL_law_1700 ?_
        obtain ⟨h264, hw⟩ := hw
        refine va_sld hx hb hX hbl hbA hS h264 dL_law_1701 ?_
        refine lv_i2l (v := (xs (x4 + (3 : Int32)).toNatClampNeg).toInt64) hx hb dL_law_1702 rfl ?_
        refine lv_ldc2 (v := (4294967295 : Int64)) hx hb hown (z_w hts 7 (w := .constantLong RL 202 (4294967295)) rfl) dL_law_1703 ?_
        refine lv_land hx hb dL_law_1706 ?_
        refine lv_lor hx hb dL_law_1707 ?_
        refine lv_aload_n hx hb dL_law_1708 rfl (lv_at hl 3 rfl) ?_
        have hPx := z_perm_P z_lo hP
        have hDx := z_perm_D z_lo hD
        have hPc := (z_app_P hPx).1
        have hDc := (z_app_D hDx).1
        have hFc := z_free hDx hS hA
        refine vx_calli (vx_runSX (As := [.ref (x 0), .int (xs (x4 + (1 : Int32)).toNatClampNeg), .long ((((xs (x4 + (2 : Int32)).toNatClampNeg).toInt64) <<< ((32 : Int32).toInt64 &&& 63)) ||| (((xs (x4 + (3 : Int32)).toNatClampNeg).toInt64) &&& (4294967295 : Int64))), .ref o]) (rest := []) ⟨hx, hb, hml, hown, hts⟩ (c_L_runScript l hfl D cs o x tq h a H.size sa f S tx hs Ls (xs (x4 + (1 : Int32)).toNatClampNeg) ((((xs (x4 + (2 : Int32)).toNatClampNeg).toInt64) <<< ((32 : Int32).toInt64 &&& 63)) ||| (((xs (x4 + (3 : Int32)).toNatClampNeg).toInt64) &&& (4294967295 : Int64))) _ hw) (vx_cwSW 4 hts gL_law_L_runScript rfl rfl rfl (by decide +kernel) ⟨Nat.le_of_ble_eq_true rfl, Nat.le_of_ble_eq_true rfl⟩) (PX_S hPc hDc hKK hTW hTZ hS hFc) rfl rfl hl.1 rfl (lv_room (Nat.le_of_ble_eq_true rfl)) dL_law_1709 ⟨by show _ ≤ 601024; omega, by show _ ≤ 7293034; omega⟩) hS (fun q _ h => hFc q h) hFc (fun q _ h => hFc q h) ?_ (fun r265 u265 t H locs ht hvm hw hB hz1 hk1 hS => ?_)
        · intro E ce q9 u265 t H locs ht hvm hpx hB hz1 hk1 hS hq9 hce hcl
          exact hpx.elim
        obtain ⟨u265_0, u265_1, u265_2, u265_3, u265_4⟩ := u265
        obtain ⟨hP1, hD1⟩ := hB
        rw [ht] at hP1
        obtain ⟨hPx, hDx⟩ := z_join hPx hDx hk1 hFc hP1 hD1
        have hP : va_P D vwCl (w_Mod cs mq M ++ w_Out cs o u265_0 ++ w_Xo cs x tq h a u265_1 ++ w_Text cs tq u265_2 ++ w_Hist cs h a u265_3 ++ linesW cs a 18 u265_4) H := z_perm_P z_lob hPx
        have hD : va_D (fun q : Nat => s.heap.size ≤ q) (w_Mod cs mq M ++ w_Out cs o u265_0 ++ w_Xo cs x tq h a u265_1 ++ w_Text cs tq u265_2 ++ w_Hist cs h a u265_3 ++ linesW cs a 18 u265_4) := z_perm_D z_lob hDx
        refine lv_istore (lv' := [(5, .int r265), (0, .ref b), (1, .ref (x 0)), (2, .ref (mq 0)), (3, .ref o), (4, .int x4)]) hx hb dL_law_1712 hl (by decide) rfl (fun ls hl => ?_)
        refine lv_aload_n hx hb dL_law_1714 rfl (lv_at hl 3 rfl) ?_
        refine lv_aload_n hx hb dL_law_1715 rfl (lv_at hl 1 rfl) ?_
        refine lv_iload hx hb dL_law_1716 (lv_at hl 5 rfl) ?_
        refine lv_iconst (v := (1 : Int32)) hx hb dL_law_1718 (by decide) ?_
        refine lv_iadd hx hb dL_law_1719 ?_
        obtain ⟨h266, hw⟩ := hw
        refine va_sld hx hb hX hbl hbA hS h266 dL_law_1720 ?_
        refine lv_aload_n hx hb dL_law_1721 rfl (lv_at hl 1 rfl) ?_
        refine lv_iload hx hb dL_law_1722 (lv_at hl 5 rfl) ?_
        refine lv_iconst (v := (2 : Int32)) hx hb dL_law_1724 (by decide) ?_
        refine lv_iadd hx hb dL_law_1725 ?_
        obtain ⟨h267, hw⟩ := hw
        refine va_sld hx hb hX hbl hbA hS h267 dL_law_1726 ?_
        refine lv_i2l (v := (xs (x4 + (2 : Int32)).toNatClampNeg).toInt64) hx hb dL_law_1727 rfl ?_
        refine lv_bipush (v := (32 : Int32)) hx hb dL_law_1728 (by decide) ?_
        refine lv_lshl (v := ((xs (x4 + (2 : Int32)).toNatClampNeg).toInt64) <<< ((32 : Int32).toInt64 &&& 63)) hx hb dL_law_1730 rfl ?_
        refine lv_aload_n hx hb dL_law_1731 rfl (lv_at hl 1 rfl) ?_
        refine lv_iload hx hb dL_law_1732 (lv_at hl 5 rfl) ?_
        refine lv_iconst (v := (3 : Int32)) hx hb dL_law_1734 (by decide) ?_
        refine lv_iadd hx hb dL_law_1735 ?_
        obtain ⟨h268, hw⟩ := hw
        refine va_sld hx hb hX hbl hbA hS h268 dL_law_1736 ?_
        refine lv_i2l (v := (xs (x4 + (3 : Int32)).toNatClampNeg).toInt64) hx hb dL_law_1737 rfl ?_
        refine lv_ldc2 (v := (4294967295 : Int64)) hx hb hown (z_w hts 7 (w := .constantLong RL 202 (4294967295)) rfl) dL_law_1738 ?_
        refine lv_land hx hb dL_law_1741 ?_
        refine lv_lor hx hb dL_law_1742 ?_
        have hPx := z_perm_P z_lm hP
        have hDx := z_perm_D z_lm hD
        have hPc := (z_app_P hPx).1
        have hDc := (z_app_D hDx).1
        have hFc := z_free hDx hS hA
        refine va_calli (va_runV (As := [.int (xs (x4 + (1 : Int32)).toNatClampNeg), .long ((((xs (x4 + (2 : Int32)).toNatClampNeg).toInt64) <<< ((32 : Int32).toInt64 &&& 63)) ||| (((xs (x4 + (3 : Int32)).toNatClampNeg).toInt64) &&& (4294967295 : Int64)))]) (rest := []) ⟨hx, hb, hml, hown, hts⟩ (c_X4_runScript l D cs mq H.size M (xs (x4 + (1 : Int32)).toNatClampNeg) ((((xs (x4 + (2 : Int32)).toNatClampNeg).toInt64) <<< ((32 : Int32).toInt64 &&& 63)) ||| (((xs (x4 + (3 : Int32)).toNatClampNeg).toInt64) &&& (4294967295 : Int64))) _ hw) (cwV 2 hts gL_law_X4_runScript rfl rfl rfl (by decide +kernel) ⟨Nat.le_of_ble_eq_true rfl, Nat.le_of_ble_eq_true rfl⟩) (PC_V hPc hDc hKK 0 4 rfl rfl) rfl rfl hl.1 rfl (lv_room (Nat.le_of_ble_eq_true rfl)) dL_law_1743 ⟨by show _ ≤ 601024; omega, by show _ ≤ 7293034; omega⟩) hS (fun q _ h => hFc q h) hFc (fun r269 u269 t H locs ht hvm hw hB hz1 hk1 hS => ?_)
        obtain ⟨hP1, hD1⟩ := hB
        rw [ht] at hP1
        obtain ⟨hPx, hDx⟩ := z_join hPx hDx hk1 hFc hP1 hD1
        have hP : va_P D vwCl (w_Mod cs mq u269 ++ w_Out cs o u265_0 ++ w_Xo cs x tq h a u265_1 ++ w_Text cs tq u265_2 ++ w_Hist cs h a u265_3 ++ linesW cs a 18 u265_4) H := z_perm_P z_lmb hPx
        have hD : va_D (fun q : Nat => s.heap.size ≤ q) (w_Mod cs mq u269 ++ w_Out cs o u265_0 ++ w_Xo cs x tq h a u265_1 ++ w_Text cs tq u265_2 ++ w_Hist cs h a u265_3 ++ linesW cs a 18 u265_4) := z_perm_D z_lmb hDx
        refine lv_istore (lv' := [(6, .int r269), (5, .int r265), (0, .ref b), (1, .ref (x 0)), (2, .ref (mq 0)), (3, .ref o), (4, .int x4)]) hx hb dL_law_1746 hl (by decide) rfl (fun ls hl => ?_)
        refine lv_aload_n hx hb dL_law_1748 rfl (lv_at hl 4 rfl) ?_
        have hPx := z_perm_P z_lm hP
        have hDx := z_perm_D z_lm hD
        have hPc := (z_app_P hPx).1
        have hDc := (z_app_D hDx).1
        refine z_calli (va_runV (As := []) (rest := []) ⟨hx, hb, hml, hown, hts⟩ (c_X4_thrown l D cs mq H.size u269 _ hw) (cwV 0 hts gL_law_X4_thrown rfl rfl rfl (by decide +kernel) ⟨Nat.le_of_ble_eq_true rfl, Nat.le_of_ble_eq_true rfl⟩) (PC_V hPc hDc hKK 0 4 rfl rfl) rfl rfl hl.1 rfl (lv_room (Nat.le_of_ble_eq_true rfl)) dL_law_1749 ⟨by show _ ≤ 601024; omega, by show _ ≤ 7293034; omega⟩) (fun r270 hw => ?_)
        refine lv_iload hx hb dL_law_1752 (lv_at hl 1 rfl) ?_
        refine lv_icmp_eq (tgt := 1759) hx hb dL_law_1754 (by decide) (fun c271 => ?_) (fun c271 => ?_)
        · have hw := hw.1 c271
          refine lv_iload hx hb dL_law_1759 (lv_at hl 1 rfl) ?_
          refine lv_if_ne (tgt := 1776) hx hb dL_law_1761 (by decide) (fun c272 => ?_) (fun c272 => ?_)
          · have hw := hw.2 c272
            refine lv_goto (tgt := 1991) hx hb dL_law_1776 (by decide) ?_
            refine lv_iinc (v := x4 + 4) (lv' := [(4, .int (x4 + 4)), (6, .int r269), (5, .int r265), (0, .ref b), (1, .ref (x 0)), (2, .ref (mq 0)), (3, .ref o)]) hx hb dL_law_1991 hl (k := 6) rfl rfl (by decide) rfl (fun ls hl => ?_)
            refine lv_goto (tgt := 23) hx hb dL_law_1994 (by decide) ?_
            refine W.widen (k := 1000 + 3 * (j + 1)) (n := 20000 + 18 * (j + 1)) (by omega) (by omega) ?_
            exact ih _ _ _ _ _ _ _ (j + 1) (by omega) hw _ _ hP hD hS ls (lv_sub hl [3, 4, 5, 6, 0] rfl)
          · have hw := hw.1 c272
            refine lv_aload_n hx hb dL_law_1764 rfl (lv_at hl 5 rfl) ?_
            refine lv_iconst (v := (0 : Int32)) hx hb dL_law_1765 (by decide) ?_
            refine va_lald hx hb hK hP 9 3 rfl rfl (show vp_in (0 : Int32) 1 by unfold vp_in; decide) dL_law_1766 ?_
            refine lv_iload hx hb dL_law_1767 (lv_at hl 0 rfl) ?_
            refine lv_i2l (v := r269.toInt64) hx hb dL_law_1769 rfl ?_
            refine W.lcmp hx hb dL_law_1770 ?_
            refine lv_if_eq (tgt := 1776) hx hb dL_law_1771 (by decide) (fun c273 => ?_) (fun c273 => ?_)
            · have hw := hw.1 c273
              refine lv_goto (tgt := 1991) hx hb dL_law_1776 (by decide) ?_
              refine lv_iinc (v := x4 + 4) (lv' := [(4, .int (x4 + 4)), (6, .int r269), (5, .int r265), (0, .ref b), (1, .ref (x 0)), (2, .ref (mq 0)), (3, .ref o)]) hx hb dL_law_1991 hl (k := 6) rfl rfl (by decide) rfl (fun ls hl => ?_)
              refine lv_goto (tgt := 23) hx hb dL_law_1994 (by decide) ?_
              refine W.widen (k := 1000 + 3 * (j + 1)) (n := 20000 + 18 * (j + 1)) (by omega) (by omega) ?_
              exact ih _ _ _ _ _ _ _ (j + 1) (by omega) hw _ _ hP hD hS ls (lv_sub hl [3, 4, 5, 6, 0] rfl)
            · have hw := hw.2 c273
              refine lv_iconst (v := (0 : Int32)) hx hb dL_law_1774 (by decide) ?_
              exact False.elim hw
        · have hw := hw.2 c271
          refine lv_iconst (v := (0 : Int32)) hx hb dL_law_1757 (by decide) ?_
          exact False.elim hw
      have hw := hw.2 c3_26
      by_cases c3_27 : ((xs x4.toNatClampNeg) &&& (31 : Int32)) = 27
      · have hw := hw.1 c3_27
        refine lv_tableIn (off := 1740) (tgt := 1779) hx hb dL_law_39 (by rw [c3_27]; decide) (by rw [c3_27]; decide) (by rw [c3_27]; rfl) (by decide) ?_
        refine lv_aload_n hx hb dL_law_1779 rfl (lv_at hl 1 rfl) ?_
        refine lv_aload_n hx hb dL_law_1780 rfl (lv_at hl 0 rfl) ?_
        refine lv_iload hx hb dL_law_1781 (lv_at hl 4 rfl) ?_
        refine lv_iconst (v := (1 : Int32)) hx hb dL_law_1783 (by decide) ?_
        refine lv_iadd hx hb dL_law_1784 ?_
        obtain ⟨h274, hw⟩ := hw
        refine va_sld hx hb hX hbl hbA hS h274 dL_law_1785 ?_
        refine lv_i2l (v := (xs (x4 + (1 : Int32)).toNatClampNeg).toInt64) hx hb dL_law_1786 rfl ?_
        refine lv_bipush (v := (32 : Int32)) hx hb dL_law_1787 (by decide) ?_
        refine lv_lshl (v := ((xs (x4 + (1 : Int32)).toNatClampNeg).toInt64) <<< ((32 : Int32).toInt64 &&& 63)) hx hb dL_law_1789 rfl ?_
        refine lv_aload_n hx hb dL_law_1790 rfl (lv_at hl 0 rfl) ?_
        refine lv_iload hx hb dL_law_1791 (lv_at hl 4 rfl) ?_
        refine lv_iconst (v := (2 : Int32)) hx hb dL_law_1793 (by decide) ?_
        refine lv_iadd hx hb dL_law_1794 ?_
        obtain ⟨h275, hw⟩ := hw
        refine va_sld hx hb hX hbl hbA hS h275 dL_law_1795 ?_
        refine lv_i2l (v := (xs (x4 + (2 : Int32)).toNatClampNeg).toInt64) hx hb dL_law_1796 rfl ?_
        refine lv_ldc2 (v := (4294967295 : Int64)) hx hb hown (z_w hts 7 (w := .constantLong RL 202 (4294967295)) rfl) dL_law_1797 ?_
        refine lv_land hx hb dL_law_1800 ?_
        refine lv_lor hx hb dL_law_1801 ?_
        refine lv_aload_n hx hb dL_law_1802 rfl (lv_at hl 0 rfl) ?_
        refine lv_iload hx hb dL_law_1803 (lv_at hl 4 rfl) ?_
        refine lv_iconst (v := (3 : Int32)) hx hb dL_law_1805 (by decide) ?_
        refine lv_iadd hx hb dL_law_1806 ?_
        obtain ⟨h276, hw⟩ := hw
        refine va_sld hx hb hX hbl hbA hS h276 dL_law_1807 ?_
        refine lv_aload_n hx hb dL_law_1808 rfl (lv_at hl 3 rfl) ?_
        have hPx := z_perm_P z_lo hP
        have hDx := z_perm_D z_lo hD
        have hPc := (z_app_P hPx).1
        have hDc := (z_app_D hDx).1
        have hFc := z_free hDx hS hA
        refine vx_calli (vx_runSX (As := [.ref (x 0), .long ((((xs (x4 + (1 : Int32)).toNatClampNeg).toInt64) <<< ((32 : Int32).toInt64 &&& 63)) ||| (((xs (x4 + (2 : Int32)).toNatClampNeg).toInt64) &&& (4294967295 : Int64))), .int (xs (x4 + (3 : Int32)).toNatClampNeg), .ref o]) (rest := []) ⟨hx, hb, hml, hown, hts⟩ (c_L_simulate l hfl D cs o x tq h a H.size sa f S tx hs Ls ((((xs (x4 + (1 : Int32)).toNatClampNeg).toInt64) <<< ((32 : Int32).toInt64 &&& 63)) ||| (((xs (x4 + (2 : Int32)).toNatClampNeg).toInt64) &&& (4294967295 : Int64))) (xs (x4 + (3 : Int32)).toNatClampNeg) _ hw) (vx_cwSW 4 hts gL_law_L_simulate rfl rfl rfl (by decide +kernel) ⟨Nat.le_of_ble_eq_true rfl, Nat.le_of_ble_eq_true rfl⟩) (PX_S hPc hDc hKK hTW hTZ hS hFc) rfl rfl hl.1 rfl (lv_room (Nat.le_of_ble_eq_true rfl)) dL_law_1809 ⟨by show _ ≤ 601024; omega, by show _ ≤ 7293034; omega⟩) hS (fun q _ h => hFc q h) hFc (fun q _ h => hFc q h) ?_ (fun r277 u277 t H locs ht hvm hw hB hz1 hk1 hS => ?_)
        · intro E ce q9 u277 t H locs ht hvm hpx hB hz1 hk1 hS hq9 hce hcl
          exact hpx.elim
        obtain ⟨u277_0, u277_1, u277_2, u277_3, u277_4⟩ := u277
        obtain ⟨hP1, hD1⟩ := hB
        rw [ht] at hP1
        obtain ⟨hPx, hDx⟩ := z_join hPx hDx hk1 hFc hP1 hD1
        have hP : va_P D vwCl (w_Mod cs mq M ++ w_Out cs o u277_0 ++ w_Xo cs x tq h a u277_1 ++ w_Text cs tq u277_2 ++ w_Hist cs h a u277_3 ++ linesW cs a 18 u277_4) H := z_perm_P z_lob hPx
        have hD : va_D (fun q : Nat => s.heap.size ≤ q) (w_Mod cs mq M ++ w_Out cs o u277_0 ++ w_Xo cs x tq h a u277_1 ++ w_Text cs tq u277_2 ++ w_Hist cs h a u277_3 ++ linesW cs a 18 u277_4) := z_perm_D z_lob hDx
        refine lv_istore (lv' := [(5, .int r277), (0, .ref b), (1, .ref (x 0)), (2, .ref (mq 0)), (3, .ref o), (4, .int x4)]) hx hb dL_law_1812 hl (by decide) rfl (fun ls hl => ?_)
        refine lv_aload_n hx hb dL_law_1814 rfl (lv_at hl 3 rfl) ?_
        refine lv_aload_n hx hb dL_law_1815 rfl (lv_at hl 1 rfl) ?_
        refine lv_iload hx hb dL_law_1816 (lv_at hl 5 rfl) ?_
        refine lv_iconst (v := (1 : Int32)) hx hb dL_law_1818 (by decide) ?_
        refine lv_iadd hx hb dL_law_1819 ?_
        obtain ⟨h278, hw⟩ := hw
        refine va_sld hx hb hX hbl hbA hS h278 dL_law_1820 ?_
        refine lv_i2l (v := (xs (x4 + (1 : Int32)).toNatClampNeg).toInt64) hx hb dL_law_1821 rfl ?_
        refine lv_bipush (v := (32 : Int32)) hx hb dL_law_1822 (by decide) ?_
        refine lv_lshl (v := ((xs (x4 + (1 : Int32)).toNatClampNeg).toInt64) <<< ((32 : Int32).toInt64 &&& 63)) hx hb dL_law_1824 rfl ?_
        refine lv_aload_n hx hb dL_law_1825 rfl (lv_at hl 1 rfl) ?_
        refine lv_iload hx hb dL_law_1826 (lv_at hl 5 rfl) ?_
        refine lv_iconst (v := (2 : Int32)) hx hb dL_law_1828 (by decide) ?_
        refine lv_iadd hx hb dL_law_1829 ?_
        obtain ⟨h279, hw⟩ := hw
        refine va_sld hx hb hX hbl hbA hS h279 dL_law_1830 ?_
        refine lv_i2l (v := (xs (x4 + (2 : Int32)).toNatClampNeg).toInt64) hx hb dL_law_1831 rfl ?_
        refine lv_ldc2 (v := (4294967295 : Int64)) hx hb hown (z_w hts 7 (w := .constantLong RL 202 (4294967295)) rfl) dL_law_1832 ?_
        refine lv_land hx hb dL_law_1835 ?_
        refine lv_lor hx hb dL_law_1836 ?_
        refine lv_aload_n hx hb dL_law_1837 rfl (lv_at hl 1 rfl) ?_
        refine lv_iload hx hb dL_law_1838 (lv_at hl 5 rfl) ?_
        refine lv_iconst (v := (3 : Int32)) hx hb dL_law_1840 (by decide) ?_
        refine lv_iadd hx hb dL_law_1841 ?_
        obtain ⟨h280, hw⟩ := hw
        refine va_sld hx hb hX hbl hbA hS h280 dL_law_1842 ?_
        have hPx := z_perm_P z_lm hP
        have hDx := z_perm_D z_lm hD
        have hPc := (z_app_P hPx).1
        have hDc := (z_app_D hDx).1
        have hFc := z_free hDx hS hA
        refine va_calli (va_runV (As := [.long ((((xs (x4 + (1 : Int32)).toNatClampNeg).toInt64) <<< ((32 : Int32).toInt64 &&& 63)) ||| (((xs (x4 + (2 : Int32)).toNatClampNeg).toInt64) &&& (4294967295 : Int64))), .int (xs (x4 + (3 : Int32)).toNatClampNeg)]) (rest := []) ⟨hx, hb, hml, hown, hts⟩ (c_X4_simulate l D cs mq H.size M ((((xs (x4 + (1 : Int32)).toNatClampNeg).toInt64) <<< ((32 : Int32).toInt64 &&& 63)) ||| (((xs (x4 + (2 : Int32)).toNatClampNeg).toInt64) &&& (4294967295 : Int64))) (xs (x4 + (3 : Int32)).toNatClampNeg) _ hw) (cwV 2 hts gL_law_X4_simulate rfl rfl rfl (by decide +kernel) ⟨Nat.le_of_ble_eq_true rfl, Nat.le_of_ble_eq_true rfl⟩) (PC_V hPc hDc hKK 0 4 rfl rfl) rfl rfl hl.1 rfl (lv_room (Nat.le_of_ble_eq_true rfl)) dL_law_1843 ⟨by show _ ≤ 601024; omega, by show _ ≤ 7293034; omega⟩) hS (fun q _ h => hFc q h) hFc (fun r281 u281 t H locs ht hvm hw hB hz1 hk1 hS => ?_)
        obtain ⟨hP1, hD1⟩ := hB
        rw [ht] at hP1
        obtain ⟨hPx, hDx⟩ := z_join hPx hDx hk1 hFc hP1 hD1
        have hP : va_P D vwCl (w_Mod cs mq u281 ++ w_Out cs o u277_0 ++ w_Xo cs x tq h a u277_1 ++ w_Text cs tq u277_2 ++ w_Hist cs h a u277_3 ++ linesW cs a 18 u277_4) H := z_perm_P z_lmb hPx
        have hD : va_D (fun q : Nat => s.heap.size ≤ q) (w_Mod cs mq u281 ++ w_Out cs o u277_0 ++ w_Xo cs x tq h a u277_1 ++ w_Text cs tq u277_2 ++ w_Hist cs h a u277_3 ++ linesW cs a 18 u277_4) := z_perm_D z_lmb hDx
        refine lv_istore (lv' := [(6, .int r281), (5, .int r277), (0, .ref b), (1, .ref (x 0)), (2, .ref (mq 0)), (3, .ref o), (4, .int x4)]) hx hb dL_law_1846 hl (by decide) rfl (fun ls hl => ?_)
        refine lv_aload_n hx hb dL_law_1848 rfl (lv_at hl 4 rfl) ?_
        have hPx := z_perm_P z_lm hP
        have hDx := z_perm_D z_lm hD
        have hPc := (z_app_P hPx).1
        have hDc := (z_app_D hDx).1
        refine z_calli (va_runV (As := []) (rest := []) ⟨hx, hb, hml, hown, hts⟩ (c_X4_thrown l D cs mq H.size u281 _ hw) (cwV 0 hts gL_law_X4_thrown rfl rfl rfl (by decide +kernel) ⟨Nat.le_of_ble_eq_true rfl, Nat.le_of_ble_eq_true rfl⟩) (PC_V hPc hDc hKK 0 4 rfl rfl) rfl rfl hl.1 rfl (lv_room (Nat.le_of_ble_eq_true rfl)) dL_law_1849 ⟨by show _ ≤ 601024; omega, by show _ ≤ 7293034; omega⟩) (fun r282 hw => ?_)
        refine lv_iload hx hb dL_law_1852 (lv_at hl 1 rfl) ?_
        refine lv_icmp_eq (tgt := 1859) hx hb dL_law_1854 (by decide) (fun c283 => ?_) (fun c283 => ?_)
        · have hw := hw.1 c283
          refine lv_iload hx hb dL_law_1859 (lv_at hl 1 rfl) ?_
          refine lv_if_ne (tgt := 1876) hx hb dL_law_1861 (by decide) (fun c284 => ?_) (fun c284 => ?_)
          · have hw := hw.2 c284
            refine lv_goto (tgt := 1991) hx hb dL_law_1876 (by decide) ?_
            refine lv_iinc (v := x4 + 4) (lv' := [(4, .int (x4 + 4)), (6, .int r281), (5, .int r277), (0, .ref b), (1, .ref (x 0)), (2, .ref (mq 0)), (3, .ref o)]) hx hb dL_law_1991 hl (k := 6) rfl rfl (by decide) rfl (fun ls hl => ?_)
            refine lv_goto (tgt := 23) hx hb dL_law_1994 (by decide) ?_
            refine W.widen (k := 1000 + 3 * (j + 1)) (n := 20000 + 18 * (j + 1)) (by omega) (by omega) ?_
            exact ih _ _ _ _ _ _ _ (j + 1) (by omega) hw _ _ hP hD hS ls (lv_sub hl [3, 4, 5, 6, 0] rfl)
          · have hw := hw.1 c284
            refine lv_aload_n hx hb dL_law_1864 rfl (lv_at hl 5 rfl) ?_
            refine lv_iconst (v := (0 : Int32)) hx hb dL_law_1865 (by decide) ?_
            refine va_lald hx hb hK hP 9 3 rfl rfl (show vp_in (0 : Int32) 1 by unfold vp_in; decide) dL_law_1866 ?_
            refine lv_iload hx hb dL_law_1867 (lv_at hl 0 rfl) ?_
            refine lv_i2l (v := r281.toInt64) hx hb dL_law_1869 rfl ?_
            refine W.lcmp hx hb dL_law_1870 ?_
            refine lv_if_eq (tgt := 1876) hx hb dL_law_1871 (by decide) (fun c285 => ?_) (fun c285 => ?_)
            · have hw := hw.1 c285
              refine lv_goto (tgt := 1991) hx hb dL_law_1876 (by decide) ?_
              refine lv_iinc (v := x4 + 4) (lv' := [(4, .int (x4 + 4)), (6, .int r281), (5, .int r277), (0, .ref b), (1, .ref (x 0)), (2, .ref (mq 0)), (3, .ref o)]) hx hb dL_law_1991 hl (k := 6) rfl rfl (by decide) rfl (fun ls hl => ?_)
              refine lv_goto (tgt := 23) hx hb dL_law_1994 (by decide) ?_
              refine W.widen (k := 1000 + 3 * (j + 1)) (n := 20000 + 18 * (j + 1)) (by omega) (by omega) ?_
              exact ih _ _ _ _ _ _ _ (j + 1) (by omega) hw _ _ hP hD hS ls (lv_sub hl [3, 4, 5, 6, 0] rfl)
            · have hw := hw.2 c285
              refine lv_iconst (v := (0 : Int32)) hx hb dL_law_1874 (by decide) ?_
              exact False.elim hw
        · have hw := hw.2 c283
          refine lv_iconst (v := (0 : Int32)) hx hb dL_law_1857 (by decide) ?_
          exact False.elim hw
      have hw := hw.2 c3_27
      by_cases c3_28 : ((xs x4.toNatClampNeg) &&& (31 : Int32)) = 28
      · have hw := hw.1 c3_28
        refine lv_tableIn (off := 1840) (tgt := 1879) hx hb dL_law_39 (by rw [c3_28]; decide) (by rw [c3_28]; decide) (by rw [c3_28]; rfl) (by decide) ?_
        refine lv_aload_n hx hb dL_law_1879 rfl (lv_at hl 1 rfl) ?_
        refine lv_aload_n hx hb dL_law_1880 rfl (lv_at hl 0 rfl) ?_
        refine lv_iload hx hb dL_law_1881 (lv_at hl 4 rfl) ?_
        refine lv_iconst (v := (1 : Int32)) hx hb dL_law_1883 (by decide) ?_
        refine lv_iadd hx hb dL_law_1884 ?_
        obtain ⟨h286, hw⟩ := hw
        refine va_sld hx hb hX hbl hbA hS h286 dL_law_1885 ?_
        refine lv_aload_n hx hb dL_law_1886 rfl (lv_at hl 3 rfl) ?_
        have hPx := z_perm_P z_lo hP
        have hDx := z_perm_D z_lo hD
        have hPc := (z_app_P hPx).1
        have hDc := (z_app_D hDx).1
        have hFc := z_free hDx hS hA
        refine vx_calli (vx_runSX (As := [.ref (x 0), .int (xs (x4 + (1 : Int32)).toNatClampNeg), .ref o]) (rest := []) ⟨hx, hb, hml, hown, hts⟩ (c_L_save l hfl D cs o x tq h a H.size sa f S tx hs Ls (xs (x4 + (1 : Int32)).toNatClampNeg) _ hw) (vx_cwSW 3 hts gL_law_L_save rfl rfl rfl (by decide +kernel) ⟨Nat.le_of_ble_eq_true rfl, Nat.le_of_ble_eq_true rfl⟩) (PX_S hPc hDc hKK hTW hTZ hS hFc) rfl rfl hl.1 rfl (lv_room (Nat.le_of_ble_eq_true rfl)) dL_law_1887 ⟨by show _ ≤ 601024; omega, by show _ ≤ 7293034; omega⟩) hS (fun q _ h => hFc q h) hFc (fun q _ h => hFc q h) ?_ (fun r287 u287 t H locs ht hvm hw hB hz1 hk1 hS => ?_)
        · intro E ce q9 u287 t H locs ht hvm hpx hB hz1 hk1 hS hq9 hce hcl
          exact hpx.elim
        obtain ⟨u287_0, u287_1, u287_2, u287_3, u287_4⟩ := u287
        obtain ⟨hP1, hD1⟩ := hB
        rw [ht] at hP1
        obtain ⟨hPx, hDx⟩ := z_join hPx hDx hk1 hFc hP1 hD1
        have hP : va_P D vwCl (w_Mod cs mq M ++ w_Out cs o u287_0 ++ w_Xo cs x tq h a u287_1 ++ w_Text cs tq u287_2 ++ w_Hist cs h a u287_3 ++ linesW cs a 18 u287_4) H := z_perm_P z_lob hPx
        have hD : va_D (fun q : Nat => s.heap.size ≤ q) (w_Mod cs mq M ++ w_Out cs o u287_0 ++ w_Xo cs x tq h a u287_1 ++ w_Text cs tq u287_2 ++ w_Hist cs h a u287_3 ++ linesW cs a 18 u287_4) := z_perm_D z_lob hDx
        refine lv_istore (lv' := [(5, .int r287), (0, .ref b), (1, .ref (x 0)), (2, .ref (mq 0)), (3, .ref o), (4, .int x4)]) hx hb dL_law_1890 hl (by decide) rfl (fun ls hl => ?_)
        refine lv_aload_n hx hb dL_law_1892 rfl (lv_at hl 3 rfl) ?_
        refine lv_aload_n hx hb dL_law_1893 rfl (lv_at hl 1 rfl) ?_
        refine lv_iload hx hb dL_law_1894 (lv_at hl 5 rfl) ?_
        refine lv_iconst (v := (1 : Int32)) hx hb dL_law_1896 (by decide) ?_
        refine lv_iadd hx hb dL_law_1897 ?_
        obtain ⟨h288, hw⟩ := hw
        refine va_sld hx hb hX hbl hbA hS h288 dL_law_1898 ?_
        have hPx := z_perm_P z_lm hP
        have hDx := z_perm_D z_lm hD
        have hPc := (z_app_P hPx).1
        have hDc := (z_app_D hDx).1
        have hFc := z_free hDx hS hA
        refine va_calli (va_runV (As := [.int (xs (x4 + (1 : Int32)).toNatClampNeg)]) (rest := []) ⟨hx, hb, hml, hown, hts⟩ (c_X4_save l D cs mq H.size M (xs (x4 + (1 : Int32)).toNatClampNeg) _ hw) (cwV 1 hts gL_law_X4_save rfl rfl rfl (by decide +kernel) ⟨Nat.le_of_ble_eq_true rfl, Nat.le_of_ble_eq_true rfl⟩) (PC_V hPc hDc hKK 0 4 rfl rfl) rfl rfl hl.1 rfl (lv_room (Nat.le_of_ble_eq_true rfl)) dL_law_1899 ⟨by show _ ≤ 601024; omega, by show _ ≤ 7293034; omega⟩) hS (fun q _ h => hFc q h) hFc (fun r289 u289 t H locs ht hvm hw hB hz1 hk1 hS => ?_)
        obtain ⟨hP1, hD1⟩ := hB
        rw [ht] at hP1
        obtain ⟨hPx, hDx⟩ := z_join hPx hDx hk1 hFc hP1 hD1
        have hP : va_P D vwCl (w_Mod cs mq u289 ++ w_Out cs o u287_0 ++ w_Xo cs x tq h a u287_1 ++ w_Text cs tq u287_2 ++ w_Hist cs h a u287_3 ++ linesW cs a 18 u287_4) H := z_perm_P z_lmb hPx
        have hD : va_D (fun q : Nat => s.heap.size ≤ q) (w_Mod cs mq u289 ++ w_Out cs o u287_0 ++ w_Xo cs x tq h a u287_1 ++ w_Text cs tq u287_2 ++ w_Hist cs h a u287_3 ++ linesW cs a 18 u287_4) := z_perm_D z_lmb hDx
        refine lv_istore (lv' := [(6, .int r289), (5, .int r287), (0, .ref b), (1, .ref (x 0)), (2, .ref (mq 0)), (3, .ref o), (4, .int x4)]) hx hb dL_law_1902 hl (by decide) rfl (fun ls hl => ?_)
        refine lv_aload_n hx hb dL_law_1904 rfl (lv_at hl 4 rfl) ?_
        have hPx := z_perm_P z_lm hP
        have hDx := z_perm_D z_lm hD
        have hPc := (z_app_P hPx).1
        have hDc := (z_app_D hDx).1
        refine z_calli (va_runV (As := []) (rest := []) ⟨hx, hb, hml, hown, hts⟩ (c_X4_thrown l D cs mq H.size u289 _ hw) (cwV 0 hts gL_law_X4_thrown rfl rfl rfl (by decide +kernel) ⟨Nat.le_of_ble_eq_true rfl, Nat.le_of_ble_eq_true rfl⟩) (PC_V hPc hDc hKK 0 4 rfl rfl) rfl rfl hl.1 rfl (lv_room (Nat.le_of_ble_eq_true rfl)) dL_law_1905 ⟨by show _ ≤ 601024; omega, by show _ ≤ 7293034; omega⟩) (fun r290 hw => ?_)
        refine lv_iload hx hb dL_law_1908 (lv_at hl 1 rfl) ?_
        refine lv_icmp_eq (tgt := 1915) hx hb dL_law_1910 (by decide) (fun c291 => ?_) (fun c291 => ?_)
        · have hw := hw.1 c291
          refine lv_iload hx hb dL_law_1915 (lv_at hl 1 rfl) ?_
          refine lv_if_ne (tgt := 1932) hx hb dL_law_1917 (by decide) (fun c292 => ?_) (fun c292 => ?_)
          · have hw := hw.2 c292
            refine lv_goto (tgt := 1991) hx hb dL_law_1932 (by decide) ?_
            refine lv_iinc (v := x4 + 4) (lv' := [(4, .int (x4 + 4)), (6, .int r289), (5, .int r287), (0, .ref b), (1, .ref (x 0)), (2, .ref (mq 0)), (3, .ref o)]) hx hb dL_law_1991 hl (k := 6) rfl rfl (by decide) rfl (fun ls hl => ?_)
            refine lv_goto (tgt := 23) hx hb dL_law_1994 (by decide) ?_
            refine W.widen (k := 1000 + 3 * (j + 1)) (n := 20000 + 18 * (j + 1)) (by omega) (by omega) ?_
            exact ih _ _ _ _ _ _ _ (j + 1) (by omega) hw _ _ hP hD hS ls (lv_sub hl [3, 4, 5, 6, 0] rfl)
          · have hw := hw.1 c292
            refine lv_aload_n hx hb dL_law_1920 rfl (lv_at hl 5 rfl) ?_
            refine lv_iconst (v := (0 : Int32)) hx hb dL_law_1921 (by decide) ?_
            refine va_lald hx hb hK hP 9 3 rfl rfl (show vp_in (0 : Int32) 1 by unfold vp_in; decide) dL_law_1922 ?_
            refine lv_iload hx hb dL_law_1923 (lv_at hl 0 rfl) ?_
            refine lv_i2l (v := r289.toInt64) hx hb dL_law_1925 rfl ?_
            refine W.lcmp hx hb dL_law_1926 ?_
            refine lv_if_eq (tgt := 1932) hx hb dL_law_1927 (by decide) (fun c293 => ?_) (fun c293 => ?_)
            · have hw := hw.1 c293
              refine lv_goto (tgt := 1991) hx hb dL_law_1932 (by decide) ?_
              refine lv_iinc (v := x4 + 4) (lv' := [(4, .int (x4 + 4)), (6, .int r289), (5, .int r287), (0, .ref b), (1, .ref (x 0)), (2, .ref (mq 0)), (3, .ref o)]) hx hb dL_law_1991 hl (k := 6) rfl rfl (by decide) rfl (fun ls hl => ?_)
              refine lv_goto (tgt := 23) hx hb dL_law_1994 (by decide) ?_
              refine W.widen (k := 1000 + 3 * (j + 1)) (n := 20000 + 18 * (j + 1)) (by omega) (by omega) ?_
              exact ih _ _ _ _ _ _ _ (j + 1) (by omega) hw _ _ hP hD hS ls (lv_sub hl [3, 4, 5, 6, 0] rfl)
            · have hw := hw.2 c293
              refine lv_iconst (v := (0 : Int32)) hx hb dL_law_1930 (by decide) ?_
              exact False.elim hw
        · have hw := hw.2 c291
          refine lv_iconst (v := (0 : Int32)) hx hb dL_law_1913 (by decide) ?_
          exact False.elim hw
      have hw := hw.2 c3_28
      by_cases c3_29 : ((xs x4.toNatClampNeg) &&& (31 : Int32)) = 29
      · have hw := hw.1 c3_29
        refine lv_tableIn (off := 1896) (tgt := 1935) hx hb dL_law_39 (by rw [c3_29]; decide) (by rw [c3_29]; decide) (by rw [c3_29]; rfl) (by decide) ?_
        refine lv_aload_n hx hb dL_law_1935 rfl (lv_at hl 1 rfl) ?_
        refine lv_aload_n hx hb dL_law_1936 rfl (lv_at hl 0 rfl) ?_
        refine lv_iload hx hb dL_law_1937 (lv_at hl 4 rfl) ?_
        refine lv_iconst (v := (1 : Int32)) hx hb dL_law_1939 (by decide) ?_
        refine lv_iadd hx hb dL_law_1940 ?_
        obtain ⟨h294, hw⟩ := hw
        refine va_sld hx hb hX hbl hbA hS h294 dL_law_1941 ?_
        refine lv_aload_n hx hb dL_law_1942 rfl (lv_at hl 3 rfl) ?_
        have hPx := z_perm_P z_lo hP
        have hDx := z_perm_D z_lo hD
        have hPc := (z_app_P hPx).1
        have hDc := (z_app_D hDx).1
        have hFc := z_free hDx hS hA
        refine vx_calli (vx_runSX (As := [.ref (x 0), .int (xs (x4 + (1 : Int32)).toNatClampNeg), .ref o]) (rest := []) ⟨hx, hb, hml, hown, hts⟩ (c_L_restore l hfl D cs o x tq h a H.size sa f S tx hs Ls (xs (x4 + (1 : Int32)).toNatClampNeg) _ hw) (vx_cwSW 3 hts gL_law_L_restore rfl rfl rfl (by decide +kernel) ⟨Nat.le_of_ble_eq_true rfl, Nat.le_of_ble_eq_true rfl⟩) (PX_S hPc hDc hKK hTW hTZ hS hFc) rfl rfl hl.1 rfl (lv_room (Nat.le_of_ble_eq_true rfl)) dL_law_1943 ⟨by show _ ≤ 601024; omega, by show _ ≤ 7293034; omega⟩) hS (fun q _ h => hFc q h) hFc (fun q _ h => hFc q h) ?_ (fun r295 u295 t H locs ht hvm hw hB hz1 hk1 hS => ?_)
        · intro E ce q9 u295 t H locs ht hvm hpx hB hz1 hk1 hS hq9 hce hcl
          exact hpx.elim
        obtain ⟨u295_0, u295_1, u295_2, u295_3, u295_4⟩ := u295
        obtain ⟨hP1, hD1⟩ := hB
        rw [ht] at hP1
        obtain ⟨hPx, hDx⟩ := z_join hPx hDx hk1 hFc hP1 hD1
        have hP : va_P D vwCl (w_Mod cs mq M ++ w_Out cs o u295_0 ++ w_Xo cs x tq h a u295_1 ++ w_Text cs tq u295_2 ++ w_Hist cs h a u295_3 ++ linesW cs a 18 u295_4) H := z_perm_P z_lob hPx
        have hD : va_D (fun q : Nat => s.heap.size ≤ q) (w_Mod cs mq M ++ w_Out cs o u295_0 ++ w_Xo cs x tq h a u295_1 ++ w_Text cs tq u295_2 ++ w_Hist cs h a u295_3 ++ linesW cs a 18 u295_4) := z_perm_D z_lob hDx
        refine lv_istore (lv' := [(5, .int r295), (0, .ref b), (1, .ref (x 0)), (2, .ref (mq 0)), (3, .ref o), (4, .int x4)]) hx hb dL_law_1946 hl (by decide) rfl (fun ls hl => ?_)
        refine lv_aload_n hx hb dL_law_1948 rfl (lv_at hl 3 rfl) ?_
        refine lv_aload_n hx hb dL_law_1949 rfl (lv_at hl 1 rfl) ?_
        refine lv_iload hx hb dL_law_1950 (lv_at hl 5 rfl) ?_
        refine lv_iconst (v := (1 : Int32)) hx hb dL_law_1952 (by decide) ?_
        refine lv_iadd hx hb dL_law_1953 ?_
        obtain ⟨h296, hw⟩ := hw
        refine va_sld hx hb hX hbl hbA hS h296 dL_law_1954 ?_
        have hPx := z_perm_P z_lm hP
        have hDx := z_perm_D z_lm hD
        have hPc := (z_app_P hPx).1
        have hDc := (z_app_D hDx).1
        have hFc := z_free hDx hS hA
        refine va_calli (va_runV (As := [.int (xs (x4 + (1 : Int32)).toNatClampNeg)]) (rest := []) ⟨hx, hb, hml, hown, hts⟩ (c_X4_restore l D cs mq H.size M (xs (x4 + (1 : Int32)).toNatClampNeg) _ hw) (cwV 1 hts gL_law_X4_restore rfl rfl rfl (by decide +kernel) ⟨Nat.le_of_ble_eq_true rfl, Nat.le_of_ble_eq_true rfl⟩) (PC_V hPc hDc hKK 0 4 rfl rfl) rfl rfl hl.1 rfl (lv_room (Nat.le_of_ble_eq_true rfl)) dL_law_1955 ⟨by show _ ≤ 601024; omega, by show _ ≤ 7293034; omega⟩) hS (fun q _ h => hFc q h) hFc (fun r297 u297 t H locs ht hvm hw hB hz1 hk1 hS => ?_)
        obtain ⟨hP1, hD1⟩ := hB
        rw [ht] at hP1
        obtain ⟨hPx, hDx⟩ := z_join hPx hDx hk1 hFc hP1 hD1
        have hP : va_P D vwCl (w_Mod cs mq u297 ++ w_Out cs o u295_0 ++ w_Xo cs x tq h a u295_1 ++ w_Text cs tq u295_2 ++ w_Hist cs h a u295_3 ++ linesW cs a 18 u295_4) H := z_perm_P z_lmb hPx
        have hD : va_D (fun q : Nat => s.heap.size ≤ q) (w_Mod cs mq u297 ++ w_Out cs o u295_0 ++ w_Xo cs x tq h a u295_1 ++ w_Text cs tq u295_2 ++ w_Hist cs h a u295_3 ++ linesW cs a 18 u295_4) := z_perm_D z_lmb hDx
        refine lv_istore (lv' := [(6, .int r297), (5, .int r295), (0, .ref b), (1, .ref (x 0)), (2, .ref (mq 0)), (3, .ref o), (4, .int x4)]) hx hb dL_law_1958 hl (by decide) rfl (fun ls hl => ?_)
        refine lv_aload_n hx hb dL_law_1960 rfl (lv_at hl 4 rfl) ?_
        have hPx := z_perm_P z_lm hP
        have hDx := z_perm_D z_lm hD
        have hPc := (z_app_P hPx).1
        have hDc := (z_app_D hDx).1
        refine z_calli (va_runV (As := []) (rest := []) ⟨hx, hb, hml, hown, hts⟩ (c_X4_thrown l D cs mq H.size u297 _ hw) (cwV 0 hts gL_law_X4_thrown rfl rfl rfl (by decide +kernel) ⟨Nat.le_of_ble_eq_true rfl, Nat.le_of_ble_eq_true rfl⟩) (PC_V hPc hDc hKK 0 4 rfl rfl) rfl rfl hl.1 rfl (lv_room (Nat.le_of_ble_eq_true rfl)) dL_law_1961 ⟨by show _ ≤ 601024; omega, by show _ ≤ 7293034; omega⟩) (fun r298 hw => ?_)
        refine lv_iload hx hb dL_law_1964 (lv_at hl 1 rfl) ?_
        refine lv_icmp_eq (tgt := 1971) hx hb dL_law_1966 (by decide) (fun c299 => ?_) (fun c299 => ?_)
        · have hw := hw.1 c299
          refine lv_iload hx hb dL_law_1971 (lv_at hl 1 rfl) ?_
          refine lv_if_ne (tgt := 1988) hx hb dL_law_1973 (by decide) (fun c300 => ?_) (fun c300 => ?_)
          · have hw := hw.2 c300
            refine lv_goto (tgt := 1991) hx hb dL_law_1988 (by decide) ?_
            refine lv_iinc (v := x4 + 4) (lv' := [(4, .int (x4 + 4)), (6, .int r297), (5, .int r295), (0, .ref b), (1, .ref (x 0)), (2, .ref (mq 0)), (3, .ref o)]) hx hb dL_law_1991 hl (k := 6) rfl rfl (by decide) rfl (fun ls hl => ?_)
            refine lv_goto (tgt := 23) hx hb dL_law_1994 (by decide) ?_
            refine W.widen (k := 1000 + 3 * (j + 1)) (n := 20000 + 18 * (j + 1)) (by omega) (by omega) ?_
            exact ih _ _ _ _ _ _ _ (j + 1) (by omega) hw _ _ hP hD hS ls (lv_sub hl [3, 4, 5, 6, 0] rfl)
          · have hw := hw.1 c300
            refine lv_aload_n hx hb dL_law_1976 rfl (lv_at hl 5 rfl) ?_
            refine lv_iconst (v := (0 : Int32)) hx hb dL_law_1977 (by decide) ?_
            refine va_lald hx hb hK hP 9 3 rfl rfl (show vp_in (0 : Int32) 1 by unfold vp_in; decide) dL_law_1978 ?_
            refine lv_iload hx hb dL_law_1979 (lv_at hl 0 rfl) ?_
            refine lv_i2l (v := r297.toInt64) hx hb dL_law_1981 rfl ?_
            refine W.lcmp hx hb dL_law_1982 ?_
            refine lv_if_eq (tgt := 1988) hx hb dL_law_1983 (by decide) (fun c301 => ?_) (fun c301 => ?_)
            · have hw := hw.1 c301
              refine lv_goto (tgt := 1991) hx hb dL_law_1988 (by decide) ?_
              refine lv_iinc (v := x4 + 4) (lv' := [(4, .int (x4 + 4)), (6, .int r297), (5, .int r295), (0, .ref b), (1, .ref (x 0)), (2, .ref (mq 0)), (3, .ref o)]) hx hb dL_law_1991 hl (k := 6) rfl rfl (by decide) rfl (fun ls hl => ?_)
              refine lv_goto (tgt := 23) hx hb dL_law_1994 (by decide) ?_
              refine W.widen (k := 1000 + 3 * (j + 1)) (n := 20000 + 18 * (j + 1)) (by omega) (by omega) ?_
              exact ih _ _ _ _ _ _ _ (j + 1) (by omega) hw _ _ hP hD hS ls (lv_sub hl [3, 4, 5, 6, 0] rfl)
            · have hw := hw.2 c301
              refine lv_iconst (v := (0 : Int32)) hx hb dL_law_1986 (by decide) ?_
              exact False.elim hw
        · have hw := hw.2 c299
          refine lv_iconst (v := (0 : Int32)) hx hb dL_law_1969 (by decide) ?_
          exact False.elim hw
      have hw := hw.2 c3_29
      have e3_0 : ¬ (((xs x4.toNatClampNeg) &&& (31 : Int32))).toInt = 0 := fun h => c3_0 (Int32.toInt_inj.mp h)
      have e3_1 : ¬ (((xs x4.toNatClampNeg) &&& (31 : Int32))).toInt = 1 := fun h => c3_1 (Int32.toInt_inj.mp h)
      have e3_2 : ¬ (((xs x4.toNatClampNeg) &&& (31 : Int32))).toInt = 2 := fun h => c3_2 (Int32.toInt_inj.mp h)
      have e3_3 : ¬ (((xs x4.toNatClampNeg) &&& (31 : Int32))).toInt = 3 := fun h => c3_3 (Int32.toInt_inj.mp h)
      have e3_4 : ¬ (((xs x4.toNatClampNeg) &&& (31 : Int32))).toInt = 4 := fun h => c3_4 (Int32.toInt_inj.mp h)
      have e3_5 : ¬ (((xs x4.toNatClampNeg) &&& (31 : Int32))).toInt = 5 := fun h => c3_5 (Int32.toInt_inj.mp h)
      have e3_6 : ¬ (((xs x4.toNatClampNeg) &&& (31 : Int32))).toInt = 6 := fun h => c3_6 (Int32.toInt_inj.mp h)
      have e3_7 : ¬ (((xs x4.toNatClampNeg) &&& (31 : Int32))).toInt = 7 := fun h => c3_7 (Int32.toInt_inj.mp h)
      have e3_8 : ¬ (((xs x4.toNatClampNeg) &&& (31 : Int32))).toInt = 8 := fun h => c3_8 (Int32.toInt_inj.mp h)
      have e3_9 : ¬ (((xs x4.toNatClampNeg) &&& (31 : Int32))).toInt = 9 := fun h => c3_9 (Int32.toInt_inj.mp h)
      have e3_10 : ¬ (((xs x4.toNatClampNeg) &&& (31 : Int32))).toInt = 10 := fun h => c3_10 (Int32.toInt_inj.mp h)
      have e3_11 : ¬ (((xs x4.toNatClampNeg) &&& (31 : Int32))).toInt = 11 := fun h => c3_11 (Int32.toInt_inj.mp h)
      have e3_12 : ¬ (((xs x4.toNatClampNeg) &&& (31 : Int32))).toInt = 12 := fun h => c3_12 (Int32.toInt_inj.mp h)
      have e3_13 : ¬ (((xs x4.toNatClampNeg) &&& (31 : Int32))).toInt = 13 := fun h => c3_13 (Int32.toInt_inj.mp h)
      have e3_14 : ¬ (((xs x4.toNatClampNeg) &&& (31 : Int32))).toInt = 14 := fun h => c3_14 (Int32.toInt_inj.mp h)
      have e3_15 : ¬ (((xs x4.toNatClampNeg) &&& (31 : Int32))).toInt = 15 := fun h => c3_15 (Int32.toInt_inj.mp h)
      have e3_16 : ¬ (((xs x4.toNatClampNeg) &&& (31 : Int32))).toInt = 16 := fun h => c3_16 (Int32.toInt_inj.mp h)
      have e3_17 : ¬ (((xs x4.toNatClampNeg) &&& (31 : Int32))).toInt = 17 := fun h => c3_17 (Int32.toInt_inj.mp h)
      have e3_18 : ¬ (((xs x4.toNatClampNeg) &&& (31 : Int32))).toInt = 18 := fun h => c3_18 (Int32.toInt_inj.mp h)
      have e3_19 : ¬ (((xs x4.toNatClampNeg) &&& (31 : Int32))).toInt = 19 := fun h => c3_19 (Int32.toInt_inj.mp h)
      have e3_20 : ¬ (((xs x4.toNatClampNeg) &&& (31 : Int32))).toInt = 20 := fun h => c3_20 (Int32.toInt_inj.mp h)
      have e3_21 : ¬ (((xs x4.toNatClampNeg) &&& (31 : Int32))).toInt = 21 := fun h => c3_21 (Int32.toInt_inj.mp h)
      have e3_22 : ¬ (((xs x4.toNatClampNeg) &&& (31 : Int32))).toInt = 22 := fun h => c3_22 (Int32.toInt_inj.mp h)
      have e3_23 : ¬ (((xs x4.toNatClampNeg) &&& (31 : Int32))).toInt = 23 := fun h => c3_23 (Int32.toInt_inj.mp h)
      have e3_24 : ¬ (((xs x4.toNatClampNeg) &&& (31 : Int32))).toInt = 24 := fun h => c3_24 (Int32.toInt_inj.mp h)
      have e3_25 : ¬ (((xs x4.toNatClampNeg) &&& (31 : Int32))).toInt = 25 := fun h => c3_25 (Int32.toInt_inj.mp h)
      have e3_26 : ¬ (((xs x4.toNatClampNeg) &&& (31 : Int32))).toInt = 26 := fun h => c3_26 (Int32.toInt_inj.mp h)
      have e3_27 : ¬ (((xs x4.toNatClampNeg) &&& (31 : Int32))).toInt = 27 := fun h => c3_27 (Int32.toInt_inj.mp h)
      have e3_28 : ¬ (((xs x4.toNatClampNeg) &&& (31 : Int32))).toInt = 28 := fun h => c3_28 (Int32.toInt_inj.mp h)
      have e3_29 : ¬ (((xs x4.toNatClampNeg) &&& (31 : Int32))).toInt = 29 := fun h => c3_29 (Int32.toInt_inj.mp h)
      refine lv_tableOut (tgt := 1991) hx hb dL_law_39 (by omega) (by decide) ?_
      refine lv_iinc (v := x4 + 4) (lv' := [(4, .int (x4 + 4)), (0, .ref b), (1, .ref (x 0)), (2, .ref (mq 0)), (3, .ref o)]) hx hb dL_law_1991 hl (k := 4) rfl rfl (by decide) rfl (fun ls hl => ?_)
      refine lv_goto (tgt := 23) hx hb dL_law_1994 (by decide) ?_
      refine W.widen (k := 1000 + 3 * (j + 1)) (n := 20000 + 18 * (j + 1)) (by omega) (by omega) ?_
      exact ih _ _ _ _ _ _ _ (j + 1) (by omega) hw _ _ hP hD hS ls (lv_sub hl [1, 2, 3, 4, 0] rfl)

/-! What a method needs that may throw, and the worlds of the law's helpers. -/
abbrev nmR : List String := ["java/lang/RuntimeException", "java/lang/Exception"]
/-- the texts of the class, by their places: their entries in its file -/
def sx : Nat → Nat × String := fun k => match k with
  | 0 => (55, "the text is full")
  | 1 => (68, "the text is not a line")
  | 2 => (133, "no such place")
  | 3 => (176, "more digits than places")
  | 4 => (184, "all tickets were drawn")
  | 5 => (196, "no such counter, or none behind it")
  | 6 => (207, "a counter can't be poured into itself")
  | 7 => (216, "no state is remembered")
  | 8 => (237, "not a script of so many commands")
  | 9 => (254, "nothing has been saved there")
  | 10 => (256, "an argument is out of its range")
  | 11 => (261, "no such counter")
  | 12 => (263, "no such ticket")
  | _ => (265, "no such save slot")
abbrev dcR : Cond := .declares (Bundle.initS "java/lang/RuntimeException")
abbrev dcE : Cond := .declares (Bundle.initS "java/lang/Exception")
abbrev dcT : Cond := .declares (Bundle.initS Bundle.tN)
def TD (U : State) : Prop := va_Nw dcR U ∧ va_Nw dcE U ∧ va_Nw dcT U
def TC (U : State) : Prop := va_Nw (.castable eISE eISE) U ∧ va_Nw (.castable eIAE eIAE) U ∧ va_Nw (.castable eIOB eIOB) U ∧ va_Nc eISE eIAE U ∧ va_Nc eISE eIOB U ∧ va_Nc eIAE eISE U ∧ va_Nc eIAE eIOB U ∧ va_Nc eIOB eISE U ∧ va_Nc eIOB eIAE U ∧ TD U
def TW (sa : Nat → Nat) (U : State) : Prop := (∀ n, n < 14 → vk_R RX3 (sx n).1 (sx n).2 (sa n) U) ∧ TC U
def TZ (A : Nat → Prop) (U : State) (H : Heap) : Prop := vx_Zq Bundle.tN "UNASSIGNED_STACK" Bundle.steD A U H ∧ vx_Zq Bundle.tN "SUPPRESSED_SENTINEL" Bundle.listD A U H
theorem va_Nc.same {C T : String} {u U : State} (h : u.vm = U.vm) (hN : va_Nc C T u) : va_Nc C T U := by
  unfold va_Nc at *
  rw [← h]
  exact hN
theorem TD.same {u U : State} (h : u.vm = U.vm) (hT : TD u) : TD U := ⟨va_Nw.same rfl h hT.1, va_Nw.same rfl h hT.2.1, va_Nw.same rfl h hT.2.2⟩
theorem TD.warm {u U : State} (h : u.WarmedH U.vm) (hT : TD u) : TD U := ⟨va_Nw.warmD h hT.1, va_Nw.warmD h hT.2.1, va_Nw.warmD h hT.2.2⟩
theorem TC.same {u U : State} (h : u.vm = U.vm) (hT : TC u) : TC U := ⟨va_Nw.same rfl h hT.1, va_Nw.same rfl h hT.2.1, va_Nw.same rfl h hT.2.2.1, hT.2.2.2.1.same h, hT.2.2.2.2.1.same h, hT.2.2.2.2.2.1.same h, hT.2.2.2.2.2.2.1.same h, hT.2.2.2.2.2.2.2.1.same h, hT.2.2.2.2.2.2.2.2.1.same h, hT.2.2.2.2.2.2.2.2.2.same h⟩
theorem TC.warm {u U : State} (h : u.WarmedH U.vm) (hT : TC u) : TC U := ⟨va_Nw.warmC h hT.1, va_Nw.warmC h hT.2.1, va_Nw.warmC h hT.2.2.1, hT.2.2.2.1.moved h.alike, hT.2.2.2.2.1.moved h.alike, hT.2.2.2.2.2.1.moved h.alike, hT.2.2.2.2.2.2.1.moved h.alike, hT.2.2.2.2.2.2.2.1.moved h.alike, hT.2.2.2.2.2.2.2.2.1.moved h.alike, hT.2.2.2.2.2.2.2.2.2.warm h⟩
theorem TW.same {sa : Nat → Nat} {u U : State} (h : u.vm = U.vm) (hT : TW sa u) : TW sa U := ⟨fun n hn => vk_R.same h.symm (hT.1 n hn), hT.2.same h⟩
theorem TW.warm {sa : Nat → Nat} {u U : State} (h : u.WarmedH U.vm) (hT : TW sa u) : TW sa U := ⟨fun n hn => vk_R.warm h (hT.1 n hn), hT.2.warm h⟩
theorem TZ.to {A B : Nat → Prop} {u U : State} {H0 H : Heap} (hv : u.vm.Alike U.vm) (h : TZ A u H0) (hk : ∀ q : Nat, q < H0.size → ¬ A q → H[q]? = H0[q]?) (hAB : ∀ q, B q → A q) : TZ B U H :=
  ⟨vx_Zq.narrow (vx_Zq.kept (vx_Zq.moved hv h.1) hk) hAB, vx_Zq.narrow (vx_Zq.kept (vx_Zq.moved hv h.2) hk) hAB⟩
def PX (D : va_G) (cs : Nat → ClassId) (ws : va_W) (sa : Nat → Nat) (sz : Nat) (U : State) : Prop := PC D cs ws sz U ∧ TW sa U ∧ TZ (va_A ws sz) U U.heap
theorem PX_blind {D : va_G} {cs : Nat → ClassId} {ws : va_W} {sa : Nat → Nat} {sz : Nat} {av : List Value} : FrameBlind (va_Pc av (PX D cs ws sa sz)) := by
  intro a U g mk h
  obtain ⟨h0, h1, h2, h3⟩ := h
  have hb := PC_blind (av := av) a U g mk ⟨h0, h1⟩
  exact ⟨hb.1, hb.2, h2.same rfl, h3.to (u := U) (U := U.calling g mk a) (Vm.Alike.refl U.vm) (fun _ _ _ => rfl) (fun _ h => h)⟩
theorem PX_S {D : va_G} {cs : Nat → ClassId} {ws : va_W} {sa : Nat → Nat} {A : Nat → Prop} {s : State} {H : Heap} {locs : List Loc} {av : List Value} (hP : va_P D vwCl ws H) (hD : va_D A ws) (hK : KK D cs s) (hTW : TW sa s) (hTZ : TZ A s s.heap) (hS : va_S A s.heap H locs) (hF : ∀ q, va_A ws H.size q → A q) : PreS s H (va_Pc av (PX D cs ws sa H.size)) av := by
  refine ⟨PX_blind, fun U hU hW => ⟨rfl, ((PC_S hP hD hK (av := av)).2 U hU hW).2, hTW.warm hW, ?_⟩⟩
  rw [hU]
  exact hTZ.to hW.alike hS.2.1 hF
theorem PX_V {D : va_G} {cs : Nat → ClassId} {ws : va_W} {sa : Nat → Nat} {A : Nat → Prop} {s : State} {H : Heap} {locs : List Loc} {av : List Value} {b : Nat} {q : vw_C} (hP : va_P D vwCl ws H) (hD : va_D A ws) (hK : KK D cs s) (hTW : TW sa s) (hTZ : TZ A s s.heap) (hS : va_S A s.heap H locs) (hF : ∀ q, va_A ws H.size q → A q) (q0 ci : Nat) {fs : List Value} (hc : vwCl[ci]? = some q) (he : ws[q0]? = some (b, .inr (ci, fs))) : PreV s H q.1 b (va_Pc (.ref b :: av) (PX D cs ws sa H.size)) av :=
  ⟨PX_blind, va_recv hK.1 hP hc he, (PX_S hP hD hK hTW hTZ hS hF (av := .ref b :: av)).2⟩
theorem zb_eISE : ∀ w ∈ (vx_atS RX3 57 eISE nmR).filter (fun w => !goodWord w), w ∈ [Cond.castable eISE eISE, dcR, dcE, dcT] := by decide +kernel
theorem zb_eIAE : ∀ w ∈ (vx_atS RX3 209 eIAE nmR).filter (fun w => !goodWord w), w ∈ [Cond.castable eIAE eIAE, dcR, dcE, dcT] := by decide +kernel
theorem zb_eIOB : ∀ w ∈ (vx_atS RX3 135 eIOB nmR).filter (fun w => !goodWord w), w ∈ [Cond.castable eIOB eIOB, dcR, dcE, dcT] := by decide +kernel
theorem zh_eISE : ∀ w ∈ Cond.classLink RX3 53 eISE :: Cond.initialized eISE :: vx_atS RX3 57 eISE nmR, vx_ot w = true := by decide +kernel
theorem zh_eIAE : ∀ w ∈ Cond.classLink RX3 205 eIAE :: Cond.initialized eIAE :: vx_atS RX3 209 eIAE nmR, vx_ot w = true := by decide +kernel
theorem zh_eIOB : ∀ w ∈ Cond.classLink RX3 131 eIOB :: Cond.initialized eIOB :: vx_atS RX3 135 eIOB nmR, vx_ot w = true := by decide +kernel
abbrev w_Out (cs : Nat → ClassId) (o : Nat) (f : Nat → Int64) : va_W := [(o, .inl (cs 3, 1, .inr (.inl f)))]
theorem z_out {α : Type} {O X T H F : List α} : ((((O ++ X) ++ T) ++ H) ++ F).Perm ((((X ++ T) ++ H) ++ F) ++ O) := by
  have h : (O ++ (((X ++ T) ++ H) ++ F)).Perm ((((X ++ T) ++ H) ++ F) ++ O) := List.perm_append_comm
  rwa [← List.append_assoc, ← List.append_assoc, ← List.append_assoc] at h
theorem z_outb {α : Type} {O X T H F : List α} : ((((X ++ T) ++ H) ++ F) ++ O).Perm ((((O ++ X) ++ T) ++ H) ++ F) := z_out.symm

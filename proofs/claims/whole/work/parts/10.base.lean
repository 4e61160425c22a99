/-! The words of this proof: states of a line, worlds, what every contract asks. -/
/-- the classes of the arrays: int, boolean, char, long, Line -/
abbrev tyC (cs : Nat → ClassId) : List (ClassId × FieldType) := [(cs 0, .int), (cs 1, .boolean), (cs 2, .char), (cs 3, .long), (cs 4, .object RX1)]
def NW (U : State) : Prop := va_Nw (.methodLinkNest RX3 11 yX2_init RX3) U ∧ va_Nw (.methodLinkNest RX1 66 yX3_cellOf RX3) U ∧ va_Nw (.methodLinkNest RX2 53 yX3_cellOf RX3) U ∧ va_AO RX1 U
def KK (D : va_G) (cs : Nat → ClassId) (U : State) : Prop := va_K D vwCl (tyC cs) U ∧ NW U
theorem NW.same {u U : State} (h : u.vm = U.vm) (hN : NW u) : NW U := ⟨va_Nw.same rfl h hN.1, va_Nw.same rfl h hN.2.1, va_Nw.same rfl h hN.2.2.1, va_AO.moved (by rw [h]; exact Vm.Alike.refl _) hN.2.2.2⟩
theorem NW.warm {u U : State} (hW : u.WarmedH U.vm) (hN : NW u) : NW U := ⟨va_Nw.warmM hW hN.1, va_Nw.warmM hW hN.2.1, va_Nw.warmM hW hN.2.2.1, va_AO.moved hW.alike hN.2.2.2⟩
theorem KK.warm {D : va_G} {cs : Nat → ClassId} {u U : State} (hW : u.WarmedH U.vm) (h : KK D cs u) : KK D cs U := ⟨va_K.moved hW.alike h.1, h.2.warm hW⟩
/-- what a contract asks: the cells, apart -/
def PC (D : va_G) (cs : Nat → ClassId) (ws : va_W) (sz : Nat) (U : State) : Prop := U.heap.size = sz ∧ va_P D vwCl ws U.heap ∧ KK D cs U ∧ va_D (fun _ => True) ws
theorem PC_blind {D : va_G} {cs : Nat → ClassId} {ws : va_W} {sz : Nat} {av : List Value} : FrameBlind (va_Pc av (PC D cs ws sz)) := by
  intro a U g mk h
  obtain ⟨h0, h1, h2, h3, h4⟩ := h
  exact ⟨h0, h1, h2, ⟨va_K.moved (u := U) (U := U.calling g mk a) (Vm.Alike.refl U.vm) h3.1, h3.2.same rfl⟩, h4⟩
theorem PC_S {D : va_G} {cs : Nat → ClassId} {ws : va_W} {A : Nat → Prop} {s : State} {H : Heap} {av : List Value} (hP : va_P D vwCl ws H) (hD : va_D A ws) (hK : KK D cs s) : PreS s H (va_Pc av (PC D cs ws H.size)) av := by
  refine ⟨PC_blind, fun U hU hW => ⟨rfl, by rw [hU], by rw [hU]; exact hP, hK.warm hW, hD.weaken (fun _ _ _ _ => trivial)⟩⟩
theorem PC_V {D : va_G} {cs : Nat → ClassId} {ws : va_W} {A : Nat → Prop} {s : State} {H : Heap} {av : List Value} {b : Nat} {q : vw_C} (hP : va_P D vwCl ws H) (hD : va_D A ws) (hK : KK D cs s) (q0 ci : Nat) {fs : List Value} (hc : vwCl[ci]? = some q) (he : ws[q0]? = some (b, .inr (ci, fs))) : PreV s H q.1 b (va_Pc (.ref b :: av) (PC D cs ws H.size)) av := by
  refine ⟨PC_blind, va_recv hK.1 hP hc he, fun U hU hW => ⟨rfl, by rw [hU], by rw [hU]; exact hP, hK.warm hW, hD.weaken (fun _ _ _ _ => trivial)⟩⟩
/-- the same, for a callee that needs fewer cells than its caller has, and whose receiver stands among the caller's -/
theorem PC_V' {D : va_G} {cs : Nat → ClassId} {ws wr : va_W} {A : Nat → Prop} {s : State} {H : Heap} {av : List Value} {b : Nat} {q : vw_C} (hP : va_P D vwCl ws H) (hD : va_D A ws) (hK : KK D cs s) (hR : va_P D vwCl wr H) (q0 ci : Nat) {fs : List Value} (hc : vwCl[ci]? = some q) (he : wr[q0]? = some (b, .inr (ci, fs))) : PreV s H q.1 b (va_Pc (.ref b :: av) (PC D cs ws H.size)) av := by
  refine ⟨PC_blind, va_recv hK.1 hR hc he, fun U hU hW => ⟨rfl, by rw [hU], by rw [hU]; exact hP, hK.warm hW, hD.weaken (fun _ _ _ _ => trivial)⟩⟩
section ZC
variable {p : Program} {l : Launch} {e : Env} {R : Room} {s : State} {m : MethodId} {args : Array Value} {below : List Frame} {meth : Method} {c : Code} {H : Heap} {locs : List Loc} {cells slots : Nat} {Q : State → Prop}
variable {pc : Nat} {ls : Array Slot} {rest st0 : List Value} {a : Array Value}
/-- a call that leaves the heap as it is -/
theorem z_calli {post : Int32 → Prop} (hr : va_Run p l e R s m args below meth c H locs cells slots 0 0 (F0 m pc ls st0) rest (vp_Si post a) (fun _ => False))
    (kk : ∀ r : Int32, post r → W p l e R s m args below meth c H locs cells slots Q (F0 m (pc + 3) ls (.int r :: rest))) : W p l e R s m args below meth c H locs cells slots Q (F0 m pc ls st0) := by
  intro T hT X
  obtain ⟨v, st₀, t, T', L, h0, X', hL, e1, e2, ⟨r, hv, hp, hh⟩, st⟩ := hr T hT X
  cases hv
  have hL0 : L = [] := List.eq_nil_iff_forall_not_mem.mpr fun q hq => (hL q hq).elim
  subst hL0
  rw [List.append_nil, Nat.add_zero, Nat.add_zero] at X'
  obtain ⟨t2, a1, b1⟩ := kk r hp T' (by rw [e1, hh, h0]) X'
  exact ⟨t2, st t2 a1, b1⟩
theorem z_calll {post : Int64 → Prop} (hr : va_Run p l e R s m args below meth c H locs cells slots 0 0 (F0 m pc ls st0) rest (vp_Sl post a) (fun _ => False))
    (kk : ∀ r : Int64, post r → W p l e R s m args below meth c H locs cells slots Q (F0 m (pc + 3) ls (.long r :: rest))) : W p l e R s m args below meth c H locs cells slots Q (F0 m pc ls st0) := by
  intro T hT X
  obtain ⟨v, st₀, t, T', L, h0, X', hL, e1, e2, ⟨r, hv, hp, hh⟩, st⟩ := hr T hT X
  cases hv
  have hL0 : L = [] := List.eq_nil_iff_forall_not_mem.mpr fun q hq => (hL q hq).elim
  subst hL0
  rw [List.append_nil, Nat.add_zero, Nat.add_zero] at X'
  obtain ⟨t2, a1, b1⟩ := kk r hp T' (by rw [e1, hh, h0]) X'
  exact ⟨t2, st t2 a1, b1⟩
end ZC
/-- what holds all the way through a method's body -/
def MAt (p : Program) (s : State) (m : MethodId) (args : Array Value) (meth : Method) (c : Code) (own : String) (cc : ByteArray) (nL : Nat) (ret : Option FieldType) (ws : List Cond) (D : va_G) (cs : Nat → ClassId) : Prop :=
  p.tables.exec = Jvm.exec ∧ c.code = cc ∧ meth.sig.returnType = ret ∧ c.maxLocals = nL ∧ s.vm.findClass own = some m.cls ∧ (∀ w ∈ ws, w.before args s = true) ∧ meth.locks = false ∧ KK D cs s
/-- from the list's own words: the j-th behind the code word -/
theorem z_w {Ts : List Cond} {args : Array Value} {s : State} (hts : ∀ w ∈ Ts, w.before args s = true) (i : Nat) {w : Cond} (h : Ts[i]? = some w) : w.before args s = true := hts w (List.mem_of_getElem? h)
/-- the part of a world that a call doesn't touch stays, what came back is put in its place -/
theorem z_perm_P {D : va_G} {cl : List vw_C} {w1 w2 : va_W} {H : Heap} (h : w1.Perm w2) (hP : va_P D cl w1 H) : va_P D cl w2 H := by
  intro k q hk
  obtain ⟨i, hi⟩ := List.getElem?_of_mem (h.mem_iff.mpr (List.mem_of_getElem? hk))
  exact hP i q hi
theorem z_nodup {A : Nat → Prop} {ws : va_W} : va_D A ws ↔ (ws.map (·.1)).Nodup ∧ ∀ q ∈ ws, A q.1 := by
  constructor
  · intro h
    refine ⟨?_, fun q hq => ?_⟩
    · refine List.pairwise_iff_getElem.mpr fun i j hi hj hij he => ?_
      rw [List.getElem_map, List.getElem_map] at he
      rw [List.length_map] at hi hj
      have := h.1 i j _ _ (List.getElem?_eq_getElem hi) (List.getElem?_eq_getElem hj) he
      omega
    · obtain ⟨i, hi⟩ := List.getElem?_of_mem hq
      exact h.2 i q hi
  · intro h
    refine ⟨fun i j p q hi hj he => ?_, fun k q hk => h.2 q (List.mem_of_getElem? hk)⟩
    have h1 := List.pairwise_iff_getElem.mp h.1
    obtain ⟨li, ei⟩ := List.getElem?_eq_some_iff.mp hi
    obtain ⟨lj, ej⟩ := List.getElem?_eq_some_iff.mp hj
    have mi : i < (ws.map (·.1)).length := by rw [List.length_map]; exact li
    have mj : j < (ws.map (·.1)).length := by rw [List.length_map]; exact lj
    rcases Nat.lt_trichotomy i j with hl | hl | hl
    · exact absurd (by rw [List.getElem_map, List.getElem_map, ei, ej]; exact he) (h1 i j mi mj hl)
    · exact hl
    · exact absurd (by rw [List.getElem_map, List.getElem_map, ei, ej]; exact he.symm) (h1 j i mj mi hl)
theorem z_perm_D {A : Nat → Prop} {w1 w2 : va_W} (h : w1.Perm w2) (hD : va_D A w1) : va_D A w2 := by
  rw [z_nodup] at hD ⊢
  exact ⟨(h.map (·.1)).nodup_iff.mp hD.1, fun q hq => hD.2 q (h.mem_iff.mpr hq)⟩
theorem z_app_P {D : va_G} {cl : List vw_C} {w1 w2 : va_W} {H : Heap} (h : va_P D cl (w1 ++ w2) H) : va_P D cl w1 H ∧ va_P D cl w2 H := by
  refine ⟨fun k q hk => ?_, fun k q hk => ?_⟩
  · obtain ⟨i, hi⟩ := List.getElem?_of_mem (List.mem_append_left w2 (List.mem_of_getElem? hk))
    exact h i q hi
  · obtain ⟨i, hi⟩ := List.getElem?_of_mem (List.mem_append_right w1 (List.mem_of_getElem? hk))
    exact h i q hi
theorem z_app_D {A : Nat → Prop} {w1 w2 : va_W} (h : va_D A (w1 ++ w2)) : va_D A w1 ∧ va_D A w2 ∧ ∀ p ∈ w1, ∀ q ∈ w2, p.1 ≠ q.1 := by
  rw [z_nodup, List.map_append, List.nodup_append] at h
  refine ⟨z_nodup.mpr ⟨h.1.1, fun q hq => h.2 q (List.mem_append_left _ hq)⟩, z_nodup.mpr ⟨h.1.2.1, fun q hq => h.2 q (List.mem_append_right _ hq)⟩, fun p hp q hq => ?_⟩
  exact h.1.2.2 p.1 (List.mem_map_of_mem hp) q.1 (List.mem_map_of_mem hq)
/-- behind a call with the cells wc of wc ++ wr: the others stay -/
theorem z_join {A0 : Nat → Prop} {D : va_G} {cl : List vw_C} {wc wr w1 : va_W} {H H1 : Heap} (hP : va_P D cl (wc ++ wr) H) (hD : va_D A0 (wc ++ wr))
    (hk : ∀ q : Nat, q < H.size → ¬ va_A wc H.size q → H1[q]? = H[q]?) (hF : ∀ q, va_A wc H.size q → A0 q) (hP1 : va_P D cl w1 H1) (hD1 : va_D (va_A wc H.size) w1) : va_P D cl (w1 ++ wr) H1 ∧ va_D A0 (w1 ++ wr) := by
  obtain ⟨hPc, hPr⟩ := z_app_P hP
  obtain ⟨hDc, hDr, hx⟩ := z_app_D hD
  have apart : ∀ (k : Nat) (q : Nat × va_E), wr[k]? = some q → q.1 < H.size ∧ ¬ va_A wc H.size q.1 := by
    intro k q hq
    have hl := (hPr k q hq).lt
    refine ⟨hl, fun h => ?_⟩
    rcases h with ⟨k2, e, h⟩ | h
    · exact hx (q.1, e) (List.mem_of_getElem? h) q (List.mem_of_getElem? hq) rfl
    · omega
  refine ⟨va_P.app hP1 (fun k q hq => (hPr k q hq).kept (hk q.1 (apart k q hq).1 (apart k q hq).2)), va_D.app (hD1.weaken (fun k q _ h => hF q.1 h)) hDr (fun i j x y hx' hy hxy => ?_)⟩
  exact (apart j y hy).2 (by rw [← hxy]; exact hD1.2 i x hx')
theorem z_free {A0 : Nat → Prop} {wc wr : va_W} {H0 H : Heap} {locs : List Loc} (hD : va_D A0 (wc ++ wr)) (hS : va_S A0 H0 H locs) (hA : ∀ q, H0.size ≤ q → A0 q) : ∀ q, va_A wc H.size q → A0 q := by
  intro q h
  rcases h with ⟨k, e, h⟩ | h
  · exact (z_app_D hD).1.2 k (q, e) h
  · exact hA q (Nat.le_trans hS.1 h)
/-- a line's cells -/
abbrev w_Line (cs : Nat → ClassId) (q : Nat → Nat) (L : LnS) : va_W :=
  [(q 0, .inr (1, [.int (L.1 0 0), .int (L.1 0 1), .int (L.1 0 2), .int (L.1 0 3), .ref (q 1), .ref (q 2), .ref (q 3), .ref (q 4), .ref (q 5), .ref (q 6), .ref (q 7), .ref (q 8), .ref (q 9)])),
   (q 1, .inl (cs 0, 6, .inl (L.1 1))), (q 2, .inl (cs 1, 6, .inl (L.1 2))), (q 3, .inl (cs 0, 6, .inl (L.1 3))), (q 4, .inl (cs 0, 54, .inl (L.1 4))), (q 5, .inl (cs 0, 54, .inl (L.1 5))),
   (q 6, .inl (cs 0, 49, .inl (L.1 6))), (q 7, .inl (cs 0, 49, .inl (L.1 7))), (q 8, .inl (cs 0, 49, .inl (L.1 8))), (q 9, .inl (cs 3, 49, .inr (.inl L.2)))]
abbrev w_Row (cs : Nat → ClassId) (a n : Nat) (f : Nat → Int32) : va_W := [(a, .inl (cs 0, n, .inl f))]
abbrev w_Text (cs : Nat → ClassId) (q : Nat → Nat) (t : TS) : va_W := [(q 0, .inr (2, [.ref (q 1), .int t.1])), (q 1, .inl (cs 2, 100, .inl t.2))]
abbrev w_Mod (cs : Nat → ClassId) (q : Nat → Nat) (M : MS) : va_W :=
  [(q 0, .inr (4, [.int (M 0 0), .ref (q 1), .int (M 0 1), .ref (q 2), .ref (q 3), .ref (q 4), .int (M 0 2), .ref (q 5), .ref (q 6), .ref (q 7), .ref (q 8)])),
   (q 1, .inl (cs 0, 100, .inl (M 1))), (q 2, .inl (cs 0, 336, .inl (M 2))), (q 3, .inl (cs 0, 336, .inl (M 3))), (q 4, .inl (cs 0, 4704, .inl (M 4))), (q 5, .inl (cs 0, 672, .inl (M 5))),
   (q 6, .inl (cs 1, 2, .inl (M 6))), (q 7, .inl (cs 0, 54, .inl (M 7))), (q 8, .inl (cs 0, 54, .inl (M 8)))]
theorem z_nar {r : Int32} (h : r = 0 ∨ r = 1) : narrow .boolean (.int r) = .int r := by rcases h with h | h <;> subst h <;> rfl

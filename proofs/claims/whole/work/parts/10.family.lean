/-! A family of lines, and the worlds of the class. -/
def linesW (cs : Nat → ClassId) (a : Nat → Nat → Nat) (n : Nat) (Ls : Nat → LnS) : va_W := (List.range n).flatMap fun k => w_Line cs (a k) (Ls k)
def linesX (cs : Nat → ClassId) (a : Nat → Nat → Nat) (n : Nat) (Ls : Nat → LnS) (i : Nat) : va_W := ((List.range n).erase i).flatMap fun k => w_Line cs (a k) (Ls k)
def linesY (cs : Nat → ClassId) (a : Nat → Nat → Nat) (n : Nat) (Ls : Nat → LnS) (i j : Nat) : va_W := (((List.range n).erase i).erase j).flatMap fun k => w_Line cs (a k) (Ls k)
abbrev w_Hist (cs : Nat → ClassId) (h : Nat → Nat) (a : Nat → Nat → Nat) (S : HS) : va_W :=
  [(h 0, .inr (0, [.ref (h 1), .int S.1, .int S.2])), (h 1, .inl (cs 4, 14, .inr (.inr (.inr (.inr (fun k => some (a (4 + k) 0)))))))]
abbrev w_Xo (cs : Nat → ClassId) (x tq h : Nat → Nat) (a : Nat → Nat → Nat) (S : XO) : va_W :=
  [(x 0, .inr (3, [.ref (tq 0), .ref (a 0 0), .ref (h 0), .ref (x 1), .ref (x 2), .ref (a 1 0), .ref (x 3)])), (x 1, .inl (cs 4, 2, .inr (.inr (.inr (.inr (fun k => some (a (2 + k) 0))))))),
   (x 2, .inl (cs 1, 2, .inl S.1)), (x 3, .inl (cs 0, 3, .inl S.2))]
theorem z_lt4 {i : Int32} (h : vp_in i 14) : 4 + i.toNatClampNeg < 18 := by
  have := Nat.not_le.mp fun q => h (Or.inr q)
  omega
theorem z_lt2 {i : Int32} (h : vp_in i 2) : 2 + i.toNatClampNeg < 18 := by
  have := Nat.not_le.mp fun q => h (Or.inr q)
  omega
theorem z_nilP {D : va_G} {cl : List vw_C} {H : Heap} : va_P D cl [] H := fun k q h => by simp at h
theorem z_nilD {A : Nat → Prop} : va_D A [] := ⟨fun i j p q h => by simp at h, fun k q h => by simp at h⟩
theorem z_mid {α : Type} {A B C : List α} : ((A ++ B) ++ C).Perm (B ++ (A ++ C)) := by
  have h : ((A ++ B) ++ C).Perm ((B ++ A) ++ C) := List.Perm.append_right C List.perm_append_comm
  rwa [List.append_assoc B A C] at h
theorem z_midb {α : Type} {A B C : List α} : (B ++ (A ++ C)).Perm ((A ++ B) ++ C) := z_mid.symm
theorem z_rot {α : Type} {A B C : List α} : ((A ++ B) ++ C).Perm ((B ++ C) ++ A) := by
  rw [List.append_assoc]
  exact List.perm_append_comm
theorem z_rotb {α : Type} {A B C : List α} : ((B ++ C) ++ A).Perm ((A ++ B) ++ C) := z_rot.symm
theorem z_mid2 {α : Type} {X T H F : List α} : (((X ++ T) ++ H) ++ F).Perm (T ++ ((X ++ H) ++ F)) := by
  have h : ((X ++ T) ++ (H ++ F)).Perm (T ++ (X ++ (H ++ F))) := z_mid
  rwa [← List.append_assoc, ← List.append_assoc X H F] at h
theorem z_mid2b {α : Type} {X T H F : List α} : (T ++ ((X ++ H) ++ F)).Perm (((X ++ T) ++ H) ++ F) := z_mid2.symm
section FAM
variable {cs : Nat → ClassId} {a : Nat → Nat → Nat} {n i j : Nat}
theorem lines_1' (Ls : Nat → LnS) (h : i < n) : (linesW cs a n Ls).Perm (w_Line cs (a i) (Ls i) ++ linesX cs a n Ls i) := by
  have hp := List.perm_cons_erase (List.mem_range.mpr h)
  exact hp.flatMap_right (fun k => w_Line cs (a k) (Ls k))
theorem lines_2' (Ls : Nat → LnS) (h : i < n) (hj : j < n) (hne : i ≠ j) : (linesX cs a n Ls i).Perm (w_Line cs (a j) (Ls j) ++ linesY cs a n Ls i j) := by
  have hm : j ∈ (List.range n).erase i := (List.mem_erase_of_ne (Ne.symm hne)).mpr (List.mem_range.mpr hj)
  exact (List.perm_cons_erase hm).flatMap_right (fun k => w_Line cs (a k) (Ls k))
theorem linesX_up (Ls : Nat → LnS) (u : LnS) : linesX cs a n (va_up Ls i u) i = linesX cs a n Ls i := by
  unfold linesX
  rw [List.flatMap_def, List.flatMap_def]
  refine congrArg List.flatten (List.map_congr_left fun k hk => ?_)
  have hk' : k ≠ i := fun e => by
    subst e
    exact (List.Nodup.not_mem_erase (List.nodup_range (n := n))) hk
  simp only [va_up, if_neg hk']
theorem linesY_up (Ls : Nat → LnS) (u : LnS) : linesY cs a n (va_up Ls i u) i j = linesY cs a n Ls i j := by
  unfold linesY
  rw [List.flatMap_def, List.flatMap_def]
  refine congrArg List.flatten (List.map_congr_left fun k hk => ?_)
  have hk' : k ≠ i := fun e => by
    subst e
    exact (List.Nodup.not_mem_erase (List.nodup_range (n := n))) (List.mem_of_mem_erase hk)
  simp only [va_up, if_neg hk']
theorem lines_1 (Ls : Nat → LnS) (W : va_W) (h : i < n) : (W ++ linesW cs a n Ls).Perm (w_Line cs (a i) (Ls i) ++ (W ++ linesX cs a n Ls i)) := by
  refine (List.Perm.append_left W (lines_1' Ls h)).trans ?_
  rw [← List.append_assoc, ← List.append_assoc]
  exact List.Perm.append_right _ List.perm_append_comm
theorem lines_1b (Ls : Nat → LnS) (W : va_W) (h : i < n) (u : LnS) : (w_Line cs (a i) u ++ (W ++ linesX cs a n Ls i)).Perm (W ++ linesW cs a n (va_up Ls i u)) := by
  have hp := (lines_1 (cs := cs) (a := a) (va_up Ls i u) W h).symm
  rw [linesX_up] at hp
  have he : va_up Ls i u i = u := by simp [va_up]
  rw [he] at hp
  exact hp
theorem lines_2 (Ls : Nat → LnS) (W : va_W) (h : i < n) (hj : j < n) (hne : i ≠ j) : (W ++ linesW cs a n Ls).Perm ((w_Line cs (a i) (Ls i) ++ w_Line cs (a j) (Ls j)) ++ (W ++ linesY cs a n Ls i j)) := by
  refine (List.Perm.append_left W ((lines_1' Ls h).trans (List.Perm.append_left _ (lines_2' Ls h hj hne)))).trans ?_
  rw [← List.append_assoc (w_Line cs (a i) (Ls i)), ← List.append_assoc W, ← List.append_assoc _ W]
  exact List.Perm.append_right _ List.perm_append_comm
theorem lines_2b (Ls : Nat → LnS) (W : va_W) (h : i < n) (hj : j < n) (hne : i ≠ j) (u : LnS) : ((w_Line cs (a i) u ++ w_Line cs (a j) (Ls j)) ++ (W ++ linesY cs a n Ls i j)).Perm (W ++ linesW cs a n (va_up Ls i u)) := by
  have hp := (lines_2 (cs := cs) (a := a) (va_up Ls i u) W h hj hne).symm
  rw [linesY_up] at hp
  have he : va_up Ls i u i = u := by simp [va_up]
  have hf : va_up Ls i u j = Ls j := by simp [va_up, Ne.symm hne]
  rw [he, hf] at hp
  exact hp
theorem lines_t (Ls : Nat → LnS) (X T H : va_W) (h : i < n) : (((X ++ T) ++ H) ++ linesW cs a n Ls).Perm ((T ++ w_Line cs (a i) (Ls i)) ++ ((X ++ H) ++ linesX cs a n Ls i)) := by
  refine z_mid2.trans ?_
  rw [List.append_assoc T]
  exact List.Perm.append_left T (lines_1 Ls (X ++ H) h)
theorem lines_tb (Ls : Nat → LnS) (X T H : va_W) (h : i < n) (u : LnS) : ((T ++ w_Line cs (a i) u) ++ ((X ++ H) ++ linesX cs a n Ls i)).Perm (((X ++ T) ++ H) ++ linesW cs a n (va_up Ls i u)) := by
  have hp := (lines_t (cs := cs) (a := a) (va_up Ls i u) X T H h).symm
  rw [linesX_up] at hp
  have he : va_up Ls i u i = u := by simp [va_up]
  rw [he] at hp
  exact hp
end FAM
section MOF
variable {l : Launch}
/-- as Met.ofW, for a method of a class some of whose other methods are the machine's own -/
theorem Met_ofWF {y : MethodName} {ws ws' : List Cond} {rm : Room} {Pc : Array Value → State → Prop} {Qc : Array Value → State → Outcome → State → Prop} {mc ms : Nat} {free : Addr → Prop} {cc : ByteArray} {maxL : Nat} {ret : Option FieldType}
    (hy : plainFor y = true) (hw : ws = Cond.code y cc maxL ret :: ws')
    (body : ∀ p e s m args below meth c s₁, BodyLoose p l y (headSpec ws rm) cc maxL ret e s m args below meth c s₁ → c.maxLocals = maxL → Pc args s →
      W p l e (headSpec ws rm).room s m args below meth c s.heap [] 0 0 (MQ below Qc args s mc ms free) (entryFrame m args maxL)) : Met l y ws rm Pc Qc mc ms free := by
  refine MetFree.of_bodySF (code := cc) (maxLocals := maxL) (ret := ret) hy ?_ ?_
  · intro args s m h hn
    obtain ⟨meth, c, h1, h2, h3, h4, h5, h6, -, -⟩ := Cond.code_spec hn (atoms_spec (ws := ws) h _ (by rw [hw]; exact List.mem_cons_self))
    exact ⟨meth, c, h1, h2, h3, h4, h5, h6⟩
  · intro p e s m args below meth c s₁ B hml hP _
    have hh0 : s₁.heap = s.heap := by rw [B.state]; rfl
    obtain ⟨t, a1, o, b1, b2, b3⟩ := body p e s m args below meth c s₁ B hml hP s₁ hh0 (Stand.of_body B)
    exact ⟨t, o, a1, b1, b2, ⟨b3.1, b3.2⟩⟩
end MOF

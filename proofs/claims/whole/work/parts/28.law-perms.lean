/-! Which cells a call of the law's takes out of its world. -/
section LPM
variable {α : Type} {M O X T H F : List α}
theorem z_lm : (((((M ++ O) ++ X) ++ T) ++ H) ++ F).Perm (M ++ ((((O ++ X) ++ T) ++ H) ++ F)) := List.Perm.of_eq (by simp only [List.append_assoc])
theorem z_lmb : (M ++ ((((O ++ X) ++ T) ++ H) ++ F)).Perm (((((M ++ O) ++ X) ++ T) ++ H) ++ F) := z_lm.symm
theorem z_lo : (((((M ++ O) ++ X) ++ T) ++ H) ++ F).Perm (((((O ++ X) ++ T) ++ H) ++ F) ++ M) := z_lm.trans List.perm_append_comm
theorem z_lob : (((((O ++ X) ++ T) ++ H) ++ F) ++ M).Perm (((((M ++ O) ++ X) ++ T) ++ H) ++ F) := z_lo.symm
theorem z_lx : (((((M ++ O) ++ X) ++ T) ++ H) ++ F).Perm ((((X ++ T) ++ H) ++ F) ++ (M ++ O)) := by
  have h : ((M ++ O) ++ (((X ++ T) ++ H) ++ F)).Perm ((((X ++ T) ++ H) ++ F) ++ (M ++ O)) := List.perm_append_comm
  have e : (((((M ++ O) ++ X) ++ T) ++ H) ++ F) = (M ++ O) ++ (((X ++ T) ++ H) ++ F) := by simp only [List.append_assoc]
  rw [e]
  exact h
theorem z_lxb : ((((X ++ T) ++ H) ++ F) ++ (M ++ O)).Perm (((((M ++ O) ++ X) ++ T) ++ H) ++ F) := z_lx.symm
end LPM

/-! CONSTRUCTORS -/
theorem am_up_e {α : Type} (F : Nat → α) {a b : Nat} (r : α) (h : b = a) : va_up F a r b = r := by subst h; exact am_up_s F b r
/-- what lies below l is as it was -/
def lowS (l : Nat) (kd kd' : mK) (I I' : mI) (J J' : mJ) (P P' : mP) : Prop := ∀ a, a < l → kd' a = kd a ∧ I' a = I a ∧ J' a = J a ∧ P' a = P a
theorem lowS.tr {l l2 : Nat} {kd kd' kd2 : mK} {I I' I2 : mI} {J J' J2 : mJ} {P P' P2 : mP} (h : lowS l kd kd' I I' J J' P P') (h2 : lowS l2 kd' kd2 I' I2 J' J2 P' P2) (hl : l ≤ l2) : lowS l kd kd2 I I2 J J2 P P2 := fun a ha => by
  obtain ⟨a1, a2, a3, a4⟩ := h a ha
  obtain ⟨b1, b2, b3, b4⟩ := h2 a (Nat.lt_of_lt_of_le ha hl)
  exact ⟨b1.trans a1, b2.trans a2, b3.trans a3, b4.trans a4⟩
/-- a fresh object at l of which nothing was written yet -/
def bare (n l ci : Nat) (kd : mK) (I : mI) (J : mJ) (P : mP) : Prop := n = l + 1 ∧ kd l = some (0, ci) ∧ I l = (fun _ => 0) ∧ J l = (fun _ => 0) ∧ P l = (fun _ => none)

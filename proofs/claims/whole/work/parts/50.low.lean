/-! THE CONSTRUCTOR OF THE CLASS -/
def midS (o l : Nat) (kd kd' : mK) (I I' : mI) (J J' : mJ) (P P' : mP) : Prop := ∀ a, o < a → a < l → kd' a = kd a ∧ I' a = I a ∧ J' a = J a ∧ P' a = P a
/-- a fresh cell's row, and rows of zeros behind it -/
def fr (b cnt : Nat) (row : Nat → Int32) (I : mI) (J : mJ) : Prop := I b = row ∧ ∀ i, 1 ≤ i → i ≤ cnt → I (b + i) = (fun _ => 0) ∧ J (b + i) = (fun _ => 0)
section Low
variable {o l b : Nat} {kd kd' : mK} {I I' : mI} {J J' : mJ} {P P' : mP}
theorem fr.low {cnt : Nat} {row : Nat → Int32} (h : fr b cnt row I J) (hl : midS o l kd kd' I I' J J' P P') (h1 : o < b) (h2 : b + cnt < l) : fr b cnt row I' J' := ⟨by rw [(hl b h1 (by omega)).2.1]; exact h.1, fun i a c => by rw [(hl (b + i) (by omega) (by omega)).2.1, (hl (b + i) (by omega) (by omega)).2.2.1]; exact h.2 i a c⟩
theorem midS.p {k : Nat} {x : Option Nat} (hl : midS o l kd kd' I I' J J' P P') (h1 : o < b) (h2 : b < l) (h : P b k = x) : P' b k = x := by rw [(hl b h1 h2).2.2.2]; exact h
theorem kS.low (h : kS kd P b) (hl : midS o l kd kd' I I' J J' P P') (h1 : o < b) (h2 : b + 9 < l) : kS kd' P' b := by
  unfold kS at h ⊢
  simp only [(hl b h1 (by omega)).1, (hl (b + 1) (by omega) (by omega)).1, (hl (b + 2) (by omega) (by omega)).1, (hl (b + 3) (by omega) (by omega)).1, (hl (b + 4) (by omega) (by omega)).1, (hl (b + 5) (by omega) (by omega)).1, (hl (b + 6) (by omega) (by omega)).1, (hl (b + 7) (by omega) (by omega)).1, (hl (b + 8) (by omega) (by omega)).1, (hl (b + 9) (by omega) (by omega)).1, (hl b h1 (by omega)).2.2.2]
  exact h
theorem kL.low (h : kL kd P b) (hl : midS o l kd kd' I I' J J' P P') (h1 : o < b) (h2 : b + 5 < l) : kL kd' P' b := by
  unfold kL at h ⊢
  simp only [(hl b h1 (by omega)).1, (hl (b + 1) (by omega) (by omega)).1, (hl (b + 2) (by omega) (by omega)).1, (hl (b + 3) (by omega) (by omega)).1, (hl (b + 4) (by omega) (by omega)).1, (hl (b + 5) (by omega) (by omega)).1, (hl b h1 (by omega)).2.2.2]
  exact h
theorem kQ.low (h : kQ kd P b) (hl : midS o l kd kd' I I' J J' P P') (h1 : o < b) (h2 : b + 5 < l) : kQ kd' P' b := by
  unfold kQ at h ⊢
  simp only [(hl b h1 (by omega)).1, (hl (b + 1) (by omega) (by omega)).1, (hl (b + 2) (by omega) (by omega)).1, (hl (b + 3) (by omega) (by omega)).1, (hl (b + 4) (by omega) (by omega)).1, (hl (b + 5) (by omega) (by omega)).1, (hl b h1 (by omega)).2.2.2]
  exact h
theorem kW.low (h : kW kd P b) (hl : midS o l kd kd' I I' J J' P P') (h1 : o < b) (h2 : b + 2 < l) : kW kd' P' b := by
  unfold kW at h ⊢
  simp only [(hl b h1 (by omega)).1, (hl (b + 1) (by omega) (by omega)).1, (hl (b + 2) (by omega) (by omega)).1, (hl b h1 (by omega)).2.2.2]
  exact h
theorem kD.low (h : kD kd P b) (hl : midS o l kd kd' I I' J J' P P') (h1 : o < b) (h2 : b + 0 < l) : kD kd' P' b := by
  unfold kD at h ⊢
  simp only [(hl b h1 (by omega)).1, (hl b h1 (by omega)).2.2.2]
  exact h
theorem kPg.low (h : kPg kd P b) (hl : midS o l kd kd' I I' J J' P P') (h1 : o < b) (h2 : b + 1 < l) : kPg kd' P' b := by
  unfold kPg at h ⊢
  simp only [(hl b h1 (by omega)).1, (hl (b + 1) (by omega) (by omega)).1, (hl b h1 (by omega)).2.2.2]
  exact h
theorem kR.low (h : kR kd P b) (hl : midS o l kd kd' I I' J J' P P') (h1 : o < b) (h2 : b + 4 < l) : kR kd' P' b := by
  unfold kR at h ⊢
  simp only [(hl b h1 (by omega)).1, (hl (b + 1) (by omega) (by omega)).1, (hl (b + 2) (by omega) (by omega)).1, (hl (b + 3) (by omega) (by omega)).1, (hl (b + 4) (by omega) (by omega)).1, (hl b h1 (by omega)).2.2.2]
  exact h
theorem kG.low (h : kG kd P b) (hl : midS o l kd kd' I I' J J' P P') (h1 : o < b) (h2 : b + 1 < l) : kG kd' P' b := by
  unfold kG at h ⊢
  simp only [(hl b h1 (by omega)).1, (hl (b + 1) (by omega) (by omega)).1, (hl b h1 (by omega)).2.2.2]
  exact h
theorem kA.low (h : kA kd P b) (hl : midS o l kd kd' I I' J J' P P') (h1 : o < b) (h2 : b + 8 < l) : kA kd' P' b := by
  obtain ⟨a0, a1, a2, a3, a4, a5, a6⟩ := h
  refine ⟨by rw [(hl b h1 (by omega)).1]; exact a0, a1.low hl (by omega) (by omega), by rw [(hl (b + 7) (by omega) (by omega)).1]; exact a2, by rw [(hl (b + 8) (by omega) (by omega)).1]; exact a3, ?_, ?_, ?_⟩ <;> rw [(hl b h1 (by omega)).2.2.2] <;> assumption
end Low

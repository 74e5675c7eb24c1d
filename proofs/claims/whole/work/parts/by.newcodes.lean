/-! BUILD: what the new riddles are -/
theorem z_clM {I : mI} {b f H M L : Nat} {un : Bool} {cs : Nat → List Nat} {Ls : List (Nat × Nat)} (hS : stM cs H I b) (hM : I b 1 = nI M) (hu : I b 2 = bz un) (hH : H ≤ 8) (hM20 : M ≤ 20) (hof : ofs cs H ≤ 520) (hcs : ∀ h, h < H → (cs h ≠ [] → okd (cs h) 0) ∧ ∀ c ∈ cs h, c < 20012 ∧ (10000 ≤ c → c < 20000 → c < 10009)) (l7 : I f 7 = nI Ls.length) (hL10 : Ls.length ≤ 10) (lR : ∀ j, j < Ls.length → I (f + 4) j = nI (Ls.getD j (0, 0)).1 ∧ I (f + 5) j = nI (Ls.getD j (0, 0)).2) (hLv : ∀ q ∈ Ls, q.2 ≤ M) : clS I b f H M Ls.length (lkO cs H) cs un (LtO Ls) (I (f + 1)) (I (f + 2)) := by
  obtain ⟨h1, h2, h3⟩ := hS
  refine ⟨h1, hM, ?_, fun h hh => ?_, fun k hk hx => ?_, ⟨l7, hL10⟩, fun i hi => ?_, rfl, rfl⟩
  · rw [hu]; cases un <;> rfl
  · refine ⟨?_, Nat.mod_lt _ (Nat.two_pow_pos _)⟩
    rw [(h3 h hh).1, h1]
    exact look_maskM hH (Nat.lt_trans (lkm_lt _ _ (by decide) (fun c hc => ((hcs h hh).2 c hc).2)) (by decide))
  · rw [h2 k (by omega), Bool.and_eq_true, decide_eq_true_eq] at hx
    have hk2 := h3 k hx.1
    have hne : cs k ≠ [] := fun z => by simp [z] at hx
    have hof2 := ofs_inn cs hx.1
    refine ⟨hx.1, ofs cs k, hk2.2.1, hk2.2.2.1, by omega, fun j hj => ?_, (hcs k hx.1).1 hne, fun c hc => ((hcs k hx.1).2 c hc).1⟩
    rw [hk2.2.2.2 j hj]
    simp [List.getD, List.getElem?_eq_getElem hj]
  · have hq := lR i hi
    have hm : Ls.getD i (0, 0) ∈ Ls := by
      rw [List.getD, List.getElem?_eq_getElem hi]
      exact List.getElem_mem hi
    have hv := hLv _ hm
    refine ⟨?_, ?_, (Ls.getD i (0, 0)).2, by omega, hq.2⟩
    · unfold LtO
      rw [if_pos (by omega), show 2 * i / 2 = i by omega]
      exact hq.1
    · unfold LtO
      rw [if_neg (by omega), show (2 * i + 1) / 2 = i by omega]
      exact hq.2
/-- the riddles for a new house H: c; that of k and c, by an act -/
def nr1 (H c : Nat) : List Nat := [10000 + H, c, 20009]
def nr2 (H k c a : Nat) : List Nat := [10000 + H, 10000 + k, c, a, 20009]
theorem nr1_ok {H c : Nat} (hH : H < 9) (hc : c < 10000) : okd (nr1 H c) 0 ∧ ∀ x ∈ nr1 H c, x < 20012 ∧ (10000 ≤ x → x < 20000 → x < 10009) := by
  refine ⟨?_, fun x hx => ?_⟩
  · unfold nr1
    simp only [okd, dep1]
    rw [if_pos (show 10000 + H < 20003 by omega), if_pos (show 10000 + H < 20003 by omega), if_pos (show c < 20003 by omega), if_pos (show c < 20003 by omega)]
    decide
  · simp only [nr1, List.mem_cons, List.not_mem_nil, or_false] at hx
    omega
theorem nr2_ok {H k c a : Nat} (hH : H < 9) (hk : k < 9) (hc : c < 10000) (ha : a = 20004 ∨ a = 20006) : okd (nr2 H k c a) 0 ∧ ∀ x ∈ nr2 H k c a, x < 20012 ∧ (10000 ≤ x → x < 20000 → x < 10009) := by
  refine ⟨?_, fun x hx => ?_⟩
  · unfold nr2
    simp only [okd, dep1]
    rw [if_pos (show 10000 + H < 20003 by omega), if_pos (show 10000 + H < 20003 by omega), if_pos (show 10000 + k < 20003 by omega), if_pos (show 10000 + k < 20003 by omega), if_pos (show c < 20003 by omega), if_pos (show c < 20003 by omega)]
    rcases ha with ha | ha <;> rw [ha] <;> decide
  · simp only [nr2, List.mem_cons, List.not_mem_nil, or_false] at hx
    omega

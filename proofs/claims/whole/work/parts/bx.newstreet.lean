/-! BUILD: the street with a new house -/
def csN (cs : Nat → List Nat) (H : Nat) (r : List Nat) : Nat → List Nat := fun h => if h = H then r else cs h
theorem csN_o {cs : Nat → List Nat} {H h : Nat} {r : List Nat} (hh : h ≠ H) : csN cs H r h = cs h := if_neg hh
theorem csN_s {cs : Nat → List Nat} {H : Nat} {r : List Nat} : csN cs H r H = r := if_pos rfl
theorem csN_ofs {cs : Nat → List Nat} {H : Nat} {r : List Nat} : ∀ k, k ≤ H → ofs (csN cs H r) k = ofs cs k
  | 0, _ => rfl
  | k + 1, hk => by
    show ofs (csN cs H r) k + (csN cs H r k).length = ofs cs k + (cs k).length
    rw [csN_ofs k (by omega), csN_o (by omega)]
/-- a street and a riddle behind it make the street with a new house -/
theorem stM.new {cs : Nat → List Nat} {H s : Nat} {I I1 : mI} {r : List Nat} {u : Int32} (hH : H < 8) (hr : r ≠ []) (h : stM cs H I s) (h0 : I1 s 0 = nI (H + 1)) (h3 : I1 s 3 = u ||| nI (2 ^ H)) (hu : ∀ i, i < 32 → i ≠ H → bt u i = bt (I s 3) i) (hl : ∀ x, x < H → I1 (s + 1) x = I (s + 1) x ∧ I1 (s + 3) x = I (s + 3) x ∧ I1 (s + 4) x = I (s + 4) x) (hc : ∀ j, j < ofs cs H → I1 (s + 2) j = I (s + 2) j) (n1 : I1 (s + 1) H = nI (lkm 0 r)) (n3 : I1 (s + 3) H = nI (ofs cs H)) (n4 : I1 (s + 4) H = nI (ofs cs H + r.length)) (nc : ∀ j, j < r.length → I1 (s + 2) (ofs cs H + j) = nI (r.getD j 0)) : stM (csN cs H r) (H + 1) I1 s := by
  obtain ⟨s0, s3, sh⟩ := h
  refine ⟨h0, fun i hi => ?_, fun x hx => ?_⟩
  · rw [h3, b_or, bt_nI _ hi, Nat.testBit_two_pow]
    by_cases q : i = H
    · subst q
      rw [csN_s, decide_eq_true rfl, Bool.or_true, decide_eq_true (by omega)]
      cases r with
      | nil => exact absurd rfl hr
      | cons a t => rfl
    · rw [hu i hi q, s3 i hi, csN_o q, decide_eq_false (show ¬ H = i from fun e => q e.symm), Bool.or_false]
      by_cases q2 : i < H
      · rw [decide_eq_true q2, decide_eq_true (by omega)]
      · rw [decide_eq_false q2, decide_eq_false (by omega)]
  · by_cases q : x = H
    · subst q
      rw [csN_s, csN_ofs x (Nat.le_refl x)]
      exact ⟨n1, n3, n4, nc⟩
    · have hx2 : x < H := by omega
      obtain ⟨a1, a2, a3, a4⟩ := sh x hx2
      obtain ⟨b1, b2, b3⟩ := hl x hx2
      rw [csN_o q, csN_ofs x (by omega)]
      refine ⟨b1.trans a1, b2.trans a2, b3.trans a3, fun j hj => ?_⟩
      have hi := ofs_inn cs hx2
      rw [hc _ (by omega)]
      exact a4 j hj

/-! BUILD: the new house's riddle as it grows -/
def nwS (I : mI) (s H M : Nat) (un : Bool) (cs : Nat → List Nat) : Prop := (I s 0 = nI (H + 1) ∧ I s 1 = nI M ∧ I s 2 = bz un ∧ I (s + 3) H = nI (ofs cs H)) ∧ (∀ i, i < 32 → i ≠ H → bt (I s 3) i = (decide (i < H) && !(cs i).isEmpty)) ∧ ∀ x, x < H → I (s + 1) x = nI (lkm 0 (cs x)) ∧ I (s + 3) x = nI (ofs cs x) ∧ I (s + 4) x = nI (ofs cs x + (cs x).length) ∧ ∀ j, j < (cs x).length → I (s + 2) (ofs cs x + j) = nI ((cs x).getD j 0)
def nwP (I : mI) (s H M : Nat) (un : Bool) (cs : Nat → List Nat) (r : List Nat) : Prop := nwS I s H M un cs ∧ bt (I s 3) H = true ∧ I (s + 1) H = nI (lkm 0 r) ∧ I (s + 4) H = nI (ofs cs H + r.length) ∧ I s 6 = nI (ofs cs H + r.length) ∧ ∀ j, j < r.length → I (s + 2) (ofs cs H + j) = nI (r.getD j 0)
theorem nwS.cg {I I' : mI} {s H M : Nat} {un : Bool} {cs : Nat → List Nat} (h : ∀ a, s ≤ a → a ≤ s + 4 → I' a = I a) (hS : nwS I s H M un cs) : nwS I' s H M un cs := by
  unfold nwS
  rw [h s (by omega) (by omega), h (s + 1) (by omega) (by omega), h (s + 2) (by omega) (by omega), h (s + 3) (by omega) (by omega), h (s + 4) (by omega) (by omega)]
  exact hS
theorem nwP.st {I : mI} {s H M : Nat} {un : Bool} {cs : Nat → List Nat} {r : List Nat} (hH : H < 8) (hr : r ≠ []) (h : nwP I s H M un cs r) : stM (csN cs H r) (H + 1) I s := by
  obtain ⟨⟨⟨a0, a1, a2, a3⟩, hb, hx⟩, b3, b1, b4, b6, bc⟩ := h
  refine ⟨a0, fun i hi => ?_, fun x hx2 => ?_⟩
  · by_cases q : i = H
    · subst q
      rw [csN_s, b3, decide_eq_true (by omega)]
      cases r with
      | nil => exact absurd rfl hr
      | cons a t => rfl
    · rw [hb i hi q, csN_o q]
      by_cases q2 : i < H
      · rw [decide_eq_true q2, decide_eq_true (by omega)]
      · rw [decide_eq_false q2, decide_eq_false (by omega)]
  · by_cases q : x = H
    · subst q
      rw [csN_s, csN_ofs x (Nat.le_refl x)]
      exact ⟨b1, a3, b4, bc⟩
    · rw [csN_o q, csN_ofs x (by omega)]
      exact hx x (by omega)
theorem lkm_app : ∀ (a : List Nat) (m : Nat) (c : Nat), lkm m (a ++ [c]) = (if 10000 ≤ c ∧ c < 20000 then lkm m a ||| 2 ^ (c - 10000) else lkm m a)
  | [], m, c => rfl
  | x :: a, m, c => lkm_app a _ c
theorem CR.sp {o b s f l n t : Nat} {kd : mK} {I I' : mI} {J : mJ} {P : mP} {T : Nat → Nat} {fp : Int32} {rr : Nat → Int32} {H M : Nat} {un : Bool} {cs : Nat → List Nat} {tx : Nat → List Int32} {e : Lf} {im : Option Lf} {wk : Option (List Nat)} (hf : ∀ a, (a < s ∨ s + 9 < a) → I' a = I a) (hC : CR o b s f l n kd I J P t T fp rr H M un cs tx e im wk) : CR o b s f l n kd I' J P t T fp rr H M un cs tx e im wk := by
  have hat := hC.1.at
  exact CR.qu (I := I) (J := J) hC.1 hC.2.1 (hf o (by omega)) (fun a a1 a2 a3 a4 a5 a6 a7 a8 a9 a10 => hf a (by omega)) rfl hC
theorem Bs.sp {o s : Nat} {I0 I I' : mI} {J0 J : mJ} {P0 P : mP} (hl : s + 9 < o + 69) (hf : ∀ a, (a < s ∨ s + 9 < a) → I' a = I a) (h : Bs o I0 I J0 J P0 P) : Bs o I0 I' J0 J P0 P := ⟨fun a x1 y1 => ⟨(hf a (by omega)).trans (h.1 a x1 y1).1, (h.1 a x1 y1).2⟩, h.2⟩
theorem nwS.beg {I I' : mI} {s H M : Nat} {un : Bool} {cs : Nat → List Nat} (hH : H < 8) (g0 : I' s 0 = nI (H + 1)) (g3 : I' s 3 = I s 3 ||| nI (2 ^ H)) (g6 : I' s 6 = nI (ofs cs H)) (gj : ∀ j, j ≠ 3 → j ≠ 6 → I' s j = I s j) (k1 : I' (s + 1) = va_up (I (s + 1)) H (nI 0)) (k2 : I' (s + 2) = I (s + 2)) (k3 : I' (s + 3) = I (s + 3)) (k4 : I' (s + 4) = va_up (I (s + 4)) H (nI (ofs cs H))) (h : nwS I s H M un cs) : nwP I' s H M un cs [] := by
  obtain ⟨⟨a0, a1, a2, a3⟩, hb, hx⟩ := h
  refine ⟨⟨⟨g0, (gj 1 (by decide) (by decide)).trans a1, (gj 2 (by decide) (by decide)).trans a2, by rw [k3]; exact a3⟩, fun i hi hn => ?_, fun x hx2 => ?_⟩, ?_, ?_, ?_, g6, fun j hj => absurd hj (Nat.not_lt_zero j)⟩
  · rw [g3, b_or, bt_nI _ hi, Nat.testBit_two_pow, decide_eq_false (show ¬ H = i from fun e => hn e.symm), Bool.or_false]
    exact hb i hi hn
  · rw [k1, k2, k3, k4, am_up_n _ _ (show x ≠ H by omega), am_up_n _ _ (show x ≠ H by omega)]
    exact hx x hx2
  · rw [g3, b_or, bt_nI _ (by omega), Nat.testBit_two_pow, decide_eq_true rfl, Bool.or_true]
  · rw [k1, am_up_s]; rfl
  · rw [k4, am_up_s]; rfl
theorem nwP.code {I I' : mI} {s H M c : Nat} {un : Bool} {cs : Nat → List Nat} {r : List Nat} (hH : H < 8) (hc9 : 10000 ≤ c → c < 20000 → c < 10009) (g6 : I' s 6 = nI (ofs cs H + r.length + 1)) (gj : ∀ j, j ≠ 6 → I' s j = I s j) (k1 : I' (s + 1) = (if 10000 ≤ c ∧ c < 20000 then va_up (I (s + 1)) H (I (s + 1) H ||| (nI 1 <<< (nI (c - 10000) &&& 31))) else I (s + 1))) (k2 : I' (s + 2) = va_up (I (s + 2)) (ofs cs H + r.length) (nI c)) (k3 : I' (s + 3) = I (s + 3)) (k4 : I' (s + 4) = va_up (I (s + 4)) H (nI (ofs cs H + r.length + 1))) (h : nwP I s H M un cs r) : nwP I' s H M un cs (r ++ [c]) := by
  obtain ⟨⟨⟨a0, a1, a2, a3⟩, hb, hx⟩, b3, b1, b4, b6, bc⟩ := h
  have hl : (r ++ [c]).length = r.length + 1 := by simp
  refine ⟨⟨⟨(gj 0 (by decide)).trans a0, (gj 1 (by decide)).trans a1, (gj 2 (by decide)).trans a2, by rw [k3]; exact a3⟩, fun i hi hn => ?_, fun x hx2 => ?_⟩, ?_, ?_, ?_, ?_, fun j hj => ?_⟩
  · rw [gj 3 (by decide)]; exact hb i hi hn
  · obtain ⟨y1, y3, y4, yc⟩ := hx x hx2
    refine ⟨?_, by rw [k3]; exact y3, by rw [k4, am_up_n _ _ (by omega)]; exact y4, fun j hj => ?_⟩
    · rw [k1]
      split
      · rw [am_up_n _ _ (by omega)]; exact y1
      · exact y1
    · have hi := ofs_inn cs hx2
      rw [k2, am_up_n _ _ (by omega)]
      exact yc j hj
  · rw [gj 3 (by decide)]; exact b3
  · rw [k1, lkm_app]
    by_cases q : 10000 ≤ c ∧ c < 20000
    · have := hc9 q.1 q.2
      rw [if_pos q, if_pos q, am_up_s, b1, or_sh2 (by omega)]
    · rw [if_neg q, if_neg q]; exact b1
  · rw [k4, am_up_s, hl, Nat.add_assoc]
  · rw [g6, hl, Nat.add_assoc]
  · rw [k2]
    by_cases q : j < r.length
    · rw [am_up_n _ _ (by omega), bc j q, List.getD_eq_getElem?_getD, List.getD_eq_getElem?_getD, List.getElem?_append_left q]
    · have ej : j = r.length := by omega
      subst ej
      rw [am_up_s, List.getD_eq_getElem?_getD, List.getElem?_append_right (Nat.le_refl _), Nat.sub_self]
      rfl
set_option maxHeartbeats 4000000 in
set_option maxRecDepth 100000 in
theorem c_begP {s H M : Nat} {un : Bool} {cs : Nat → List Nat} {n : Nat} {kd : mK} {I : mI} {J : mJ} {P : mP} (hS : kS kd P s) (hH : H < 8) (hp : nwS I s H M un cs) : Ct yX7_beginRiddle cX7_beginRiddle 2 none 1 0 0 [.ref s] n kd I J P (fun z n' kd' I' J' P' => z = .inl none ∧ n' = n ∧ kd' = kd ∧ J' = J ∧ P' = P ∧ (∀ a, (a < s ∨ s + 7 < a) → I' a = I a) ∧ nwP I' s H M un cs []) := by
  refine (c_begin s H (ofs cs H) hS hp.1.1 hH hp.1.2.2.2).mono ?_
  rintro z n' kd' I' J' P' ⟨h0, rfl, rfl, rfl, rfl, hf, g0, g3, g6, gj, k1, k2, k3, k4⟩
  exact ⟨h0, rfl, rfl, rfl, rfl, hf, hp.beg hH g0 g3 g6 gj k1 k2 k3 k4⟩

set_option maxHeartbeats 4000000 in
set_option maxRecDepth 100000 in
theorem c_codeP (c : Nat) {r : List Nat} {s H M : Nat} {un : Bool} {cs : Nat → List Nat} {n : Nat} {kd : mK} {I : mI} {J : mJ} {P : mP} (hS : kS kd P s) (hH : H < 8) (hk : ofs cs H + r.length < 520) (hc : c < 30000) (hc9 : 10000 ≤ c → c < 20000 → c < 10009) (hp : nwP I s H M un cs r) : Ct yX7_addCode cX7_addCode 2 none 1 0 0 [.ref s, .int (nI c)] n kd I J P (fun z n' kd' I' J' P' => z = .inl none ∧ n' = n ∧ kd' = kd ∧ J' = J ∧ P' = P ∧ (∀ a, (a < s ∨ s + 7 < a) → I' a = I a) ∧ nwP I' s H M un cs (r ++ [c])) := by
  refine (c_code s H (ofs cs H + r.length) c hS hp.1.1.1 hH hp.2.2.2.2.1 hk hc).mono ?_
  rintro z n' kd' I' J' P' ⟨h0, rfl, rfl, rfl, rfl, hf, g6, gj, k1, k2, k3, k4⟩
  exact ⟨h0, rfl, rfl, rfl, rfl, hf, hp.code hH hc9 g6 gj k1 k2 k3 k4⟩


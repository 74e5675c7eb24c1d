/-! ACTS AND LETTERS: what they make of a life, in both memories -/
def hadE (e : Lf) (k h : Nat) : Nat := if k = 0 then e.1 h else if k = 1 then e.2.1 h else (if e.2.2.1 h then 1 else 0)
def putE (e : Lf) (k h v : Nat) : Lf := if k = 0 then (fun j => if j = h then v else e.1 j, e.2) else if k = 1 then (e.1, (fun j => if j = h then v else e.2.1 j), e.2.2) else (e.1, e.2.1, (fun j => if j = h then decide (v = 1) else e.2.2.1 j), e.2.2.2)
def setA (e : Lf) (A : List (Nat × Nat × Nat)) : Lf := (e.1, e.2.1, e.2.2.1, A, e.2.2.2.2)
def setL (e : Lf) (L : List (Nat × Nat)) : Lf := (e.1, e.2.1, e.2.2.1, e.2.2.2.1, L)
def pushA (A : List (Nat × Nat × Nat)) (x : Nat × Nat × Nat) : List (Nat × Nat × Nat) := (if A.length = 30 then A.tail else A) ++ [x]
def actE (e : Lf) (k h v : Nat) : Lf := putE (setA e (pushA e.2.2.2.1 (k, h, hadE e k h))) k h v
def lastA (e : Lf) : Nat × Nat × Nat := e.2.2.2.1.getD (e.2.2.2.1.length - 1) (0, 0, 0)
def bkE (e : Lf) : Lf := putE (setA e e.2.2.2.1.dropLast) (lastA e).1 (lastA e).2.1 (lastA e).2.2
theorem pushA_len {A : List (Nat × Nat × Nat)} {x : Nat × Nat × Nat} (h : A.length ≤ 30) : (pushA A x).length = (if A.length = 30 then 29 else A.length) + 1 := by
  unfold pushA
  split
  · rename_i q; simp [q]
  · simp
theorem pushA_at {A : List (Nat × Nat × Nat)} {x d : Nat × Nat × Nat} {j : Nat} (h : A.length ≤ 30) (hj : j < (pushA A x).length) : (pushA A x).getD j d = if j + 1 = (pushA A x).length then x else if A.length = 30 then A.getD (j + 1) d else A.getD j d := by
  have hl := pushA_len (x := x) h
  rw [hl] at hj ⊢
  unfold pushA
  by_cases q : A.length = 30
  · simp only [q, if_true] at hj ⊢
    by_cases r : j + 1 = 29 + 1
    · rw [if_pos r, List.getD_eq_getElem?_getD, List.getElem?_append_right (by simp [q]; omega)]
      simp [q, show j - 29 = 0 by omega]
    · rw [if_neg r, List.getD_eq_getElem?_getD, List.getElem?_append_left (by simp [q]; omega), List.getElem?_tail, List.getD_eq_getElem?_getD]
  · simp only [q, if_false] at hj ⊢
    by_cases r : j + 1 = A.length + 1
    · rw [if_pos r, List.getD_eq_getElem?_getD, List.getElem?_append_right (by omega)]
      simp [show j - A.length = 0 by omega]
    · rw [if_neg r, List.getD_eq_getElem?_getD, List.getElem?_append_left (by omega), List.getD_eq_getElem?_getD]
theorem getD_in {α : Type} {A : List α} {j : Nat} {d : α} (h : j < A.length) : A.getD j d ∈ A := by
  rw [List.getD_eq_getElem?_getD, List.getElem?_eq_getElem h]
  exact List.getElem_mem h
theorem okL_put {H M : Nat} {e : Lf} {k h v : Nat} (hv : v ≤ 99) (ho : okL H M e) : okL H M (putE e k h v) := by
  obtain ⟨h1, h2, h3⟩ := ho
  unfold putE
  split
  · refine ⟨fun j hj => ⟨?_, (h1 j hj).2⟩, h2, h3⟩
    show (if j = h then v else e.1 j) ≤ 99
    split
    · exact hv
    · exact (h1 j hj).1
  split
  · refine ⟨fun j hj => ⟨(h1 j hj).1, ?_⟩, h2, h3⟩
    show (if j = h then v else e.2.1 j) ≤ 99
    split
    · exact hv
    · exact (h1 j hj).2
  · exact ⟨h1, h2, h3⟩
theorem hadE_le {H M : Nat} {e : Lf} {k h : Nat} (hh : h < H) (ho : okL H M e) : hadE e k h ≤ 99 ∧ (k = 2 → hadE e k h ≤ 1) := by
  have := ho.1 h hh
  unfold hadE
  refine ⟨?_, fun q => ?_⟩
  · split
    · omega
    split
    · omega
    split <;> omega
  · rw [if_neg (by omega), if_neg (by omega)]
    split <;> omega
theorem okL_act {H M : Nat} {e : Lf} {k h v : Nat} (hk : k < 3) (hh : h < H) (hv : v ≤ 99) (ho : okL H M e) : okL H M (actE e k h v) := by
  refine okL_put hv ⟨ho.1, ⟨?_, fun a ha => ?_⟩, ho.2.2⟩
  · show (pushA e.2.2.2.1 _).length ≤ 30
    have h9 := ho.2.1.1
    rw [pushA_len h9]
    split <;> omega
  · have ha2 : a ∈ pushA e.2.2.2.1 (k, h, hadE e k h) := ha
    unfold pushA at ha2
    rcases List.mem_append.mp ha2 with q | q
    · refine ho.2.1.2 a ?_
      split at q
      · exact List.mem_of_mem_tail q
      · exact q
    · rw [List.mem_singleton.mp q]
      exact ⟨hk, hh, (hadE_le hh ho).1, (hadE_le hh ho).2⟩
theorem lastA_in {e : Lf} (h : e.2.2.2.1 ≠ []) : lastA e ∈ e.2.2.2.1 := by
  unfold lastA
  refine getD_in ?_
  have := List.length_pos_iff.mpr h
  omega
theorem okL_bk {H M : Nat} {e : Lf} (hne : e.2.2.2.1 ≠ []) (ho : okL H M e) : okL H M (bkE e) := by
  have hl := ho.2.1.2 _ (lastA_in hne)
  refine okL_put hl.2.2.1 ⟨ho.1, ⟨?_, fun a ha => ho.2.1.2 a ((List.dropLast_sublist _).subset ha)⟩, ho.2.2⟩
  show e.2.2.2.1.dropLast.length ≤ 30
  rw [List.length_dropLast]
  have := ho.2.1.1
  omega
/-! the class -/
theorem bt_1 {v i : Nat} (hv : v ≤ 1) (hi : i < 32) : bt (nI v) i = (decide (i = 0) && decide (v = 1)) := by
  rw [bt_nI _ hi]
  rcases (show v = 0 ∨ v = 1 by omega) with q | q <;> rw [q]
  · rw [Nat.zero_testBit]; simp
  · cases i with
    | zero => rfl
    | succ i => rw [show (1 : Nat) = 2 ^ 0 from rfl, Nat.testBit_two_pow]; simp
theorem cL_put {I : mI} {f H : Nat} {e : Lf} {k h v : Nat} (hk : k < 3) (hh : h < H) (hH8 : H ≤ 8) (h2 : k = 2 → v ≤ 1) (hL : cL I f H e) : cL (putL I f (nI k) h (nI v)) f H (putE e k h v) := by
  obtain ⟨h1, hm, ha, hl⟩ := hL
  rcases (show k = 0 ∨ k = 1 ∨ k = 2 by omega) with q | q | q <;> subst q
  · unfold putL putE
    rw [if_pos (show nI 0 = 0 by decide), if_pos rfl]
    refine ⟨fun j hj => ⟨?_, ?_⟩, ?_, ?_, ?_⟩
    · rw [am_up_s]
      show _ = nI (if j = h then v else e.1 j)
      by_cases q : j = h
      · rw [if_pos q, q, am_up_s]
      · rw [if_neg q, am_up_n _ _ q]; exact (h1 j hj).1
    · rw [am_up_n _ _ (by omega)]; exact (h1 j hj).2
    · rw [am_up_n _ _ (by omega)]; exact hm
    · rw [am_up_n _ _ (by omega), am_up_n _ _ (by omega)]; exact ha
    · rw [am_up_n _ _ (by omega), am_up_n _ _ (by omega), am_up_n _ _ (by omega)]; exact hl
  · unfold putL putE
    rw [if_neg (show ¬ nI 1 = 0 by decide), if_pos rfl, if_neg (by decide), if_pos rfl]
    refine ⟨fun j hj => ⟨?_, ?_⟩, ?_, ?_, ?_⟩
    · rw [am_up_n _ _ (by omega)]; exact (h1 j hj).1
    · rw [am_up_s]
      show _ = nI (if j = h then v else e.2.1 j)
      by_cases q : j = h
      · rw [if_pos q, q, am_up_s]
      · rw [if_neg q, am_up_n _ _ q]; exact (h1 j hj).2
    · rw [am_up_n _ _ (by omega)]; exact hm
    · rw [am_up_n _ _ (by omega), am_up_n _ _ (by omega)]; exact ha
    · rw [am_up_n _ _ (by omega), am_up_n _ _ (by omega), am_up_n _ _ (by omega)]; exact hl
  · unfold putL putE
    rw [if_neg (show ¬ nI 2 = 0 by decide), if_neg (show ¬ nI 2 = nI 1 by decide), if_neg (by decide), if_neg (by decide)]
    have hv := h2 rfl
    refine ⟨fun j hj => ⟨?_, ?_⟩, fun i hi => ?_, ?_, ?_⟩
    · rw [am_up_n _ _ (by omega)]; exact (h1 j hj).1
    · rw [am_up_n _ _ (by omega)]; exact (h1 j hj).2
    · rw [am_up_s, am_up_s, b_or, b_and, b_xor, b_m1 i hi, b_sh1 (by omega) hi, b_shl h (by omega) _ hi, hm i hi]
      show _ = (decide (i < H) && (if i = h then decide (v = 1) else e.2.2.1 i))
      by_cases q : i = h
      · rw [if_pos q, q, bt_1 hv (by omega)]
        simp [hh]
      · rw [if_neg q]
        by_cases r : h ≤ i
        · rw [bt_1 hv (by omega)]
          simp [q, show ¬ i - h = 0 by omega]
        · simp [q, r]
    · rw [am_up_s, am_up_n _ _ (by decide), am_up_n _ _ (by omega)]; exact ha
    · rw [am_up_s, am_up_n _ _ (by decide), am_up_n _ _ (by omega), am_up_n _ _ (by omega)]; exact hl
theorem cL_setA {I I' : mI} {f H : Nat} {e : Lf} {A : List (Nat × Nat × Nat)} (h0 : ∀ a, f < a → a ≤ f + 5 → a ≠ f + 3 → I' a = I a) (h2 : I' f 2 = I f 2) (h7 : I' f 7 = I f 7) (h4 : I' f 4 = nI A.length) (h3 : ∀ j, j < A.length → I' (f + 3) j = nI (acN (A.getD j (0, 0, 0)))) (hL : cL I f H e) : cL I' f H (setA e A) := by
  obtain ⟨h1, hm, ha, hl⟩ := hL
  unfold cL setA
  rw [h0 (f + 1) (by omega) (by omega) (by omega), h0 (f + 2) (by omega) (by omega) (by omega), h0 (f + 4) (by omega) (by omega) (by omega), h0 (f + 5) (by omega) (by omega) (by omega), h2, h7]
  exact ⟨h1, hm, ⟨h4, h3⟩, hl⟩
theorem had_c {I : mI} {f H : Nat} {e : Lf} {k h : Nat} (hk : k < 3) (hh : h < H) (hH8 : H ≤ 8) (hL : cL I f H e) : (if nI k = 0 then I (f + 1) h else if nI k = nI 1 then I (f + 2) h else (I f 2 >>> (nI h &&& 31)) &&& nI 1) = nI (hadE e k h) := by
  unfold hadE
  rcases (show k = 0 ∨ k = 1 ∨ k = 2 by omega) with q | q | q <;> subst q
  · rw [if_pos (show nI 0 = 0 by decide), if_pos rfl]; exact (hL.1 h hh).1
  · rw [if_neg (show ¬ nI 1 = 0 by decide), if_pos rfl, if_neg (by decide), if_pos rfl]; exact (hL.1 h hh).2
  · rw [if_neg (show ¬ nI 2 = 0 by decide), if_neg (show ¬ nI 2 = nI 1 by decide), if_neg (by decide), if_neg (by decide), b_ask _ (by omega), hL.2.1 h (by omega)]
    simp only [hh, decide_true, Bool.true_and]
    split <;> rfl
def lfG (n : Nat) (kd : mK) (I : mI) (J : mJ) (P : mP) (f H : Nat) (e' : Lf) (v : Option Value) : am_Post := fun z n' kd' I' J' P' => z = .inl v ∧ n' = n ∧ kd' = kd ∧ J' = J ∧ P' = P ∧ (∀ x, (x < f ∨ f + 5 < x) → I' x = I x) ∧ cL I' f H e'
theorem putL_fr {I : mI} {f h : Nat} {k v : Int32} {x : Nat} (hx : x < f ∨ f + 5 < x) : putL I f k h v x = I x := by
  unfold putL
  split
  · exact am_up_n _ _ (by omega)
  split
  · exact am_up_n _ _ (by omega)
  · exact am_up_n _ _ (by omega)
theorem dX2_act_0 : decode cX2_act 0 = .ok (.aload_n 0, 1) := by decide +kernel
theorem dX2_act_1 : decode cX2_act 1 = .ok (.getfield 25, 3) := by decide +kernel
theorem dX2_act_4 : decode cX2_act 4 = .ok (.bipush 30, 2) := by decide +kernel
theorem dX2_act_6 : decode cX2_act 6 = .ok (.if_icmp .ne 28, 3) := by decide +kernel
theorem dX2_act_9 : decode cX2_act 9 = .ok (.aload_n 0, 1) := by decide +kernel
theorem dX2_act_10 : decode cX2_act 10 = .ok (.getfield 22, 3) := by decide +kernel
theorem dX2_act_13 : decode cX2_act 13 = .ok (.iconst 1, 1) := by decide +kernel
theorem dX2_act_14 : decode cX2_act 14 = .ok (.aload_n 0, 1) := by decide +kernel
theorem dX2_act_15 : decode cX2_act 15 = .ok (.getfield 22, 3) := by decide +kernel
theorem dX2_act_18 : decode cX2_act 18 = .ok (.iconst 0, 1) := by decide +kernel
theorem dX2_act_19 : decode cX2_act 19 = .ok (.bipush 29, 2) := by decide +kernel
theorem dX2_act_21 : decode cX2_act 21 = .ok (.invokestatic 43, 3) := by decide +kernel
theorem dX2_act_24 : decode cX2_act 24 = .ok (.aload_n 0, 1) := by decide +kernel
theorem dX2_act_25 : decode cX2_act 25 = .ok (.dup, 1) := by decide +kernel
theorem dX2_act_26 : decode cX2_act 26 = .ok (.getfield 25, 3) := by decide +kernel
theorem dX2_act_29 : decode cX2_act 29 = .ok (.iconst 1, 1) := by decide +kernel
theorem dX2_act_30 : decode cX2_act 30 = .ok (.isub, 1) := by decide +kernel
theorem dX2_act_31 : decode cX2_act 31 = .ok (.putfield 25, 3) := by decide +kernel
theorem dX2_act_34 : decode cX2_act 34 = .ok (.aload_n 0, 1) := by decide +kernel
theorem dX2_act_35 : decode cX2_act 35 = .ok (.getfield 22, 3) := by decide +kernel
theorem dX2_act_38 : decode cX2_act 38 = .ok (.aload_n 0, 1) := by decide +kernel
theorem dX2_act_39 : decode cX2_act 39 = .ok (.getfield 25, 3) := by decide +kernel
theorem dX2_act_42 : decode cX2_act 42 = .ok (.sipush 1000, 3) := by decide +kernel
theorem dX2_act_45 : decode cX2_act 45 = .ok (.iload_n 1, 1) := by decide +kernel
theorem dX2_act_46 : decode cX2_act 46 = .ok (.imul, 1) := by decide +kernel
theorem dX2_act_47 : decode cX2_act 47 = .ok (.bipush 100, 2) := by decide +kernel
theorem dX2_act_49 : decode cX2_act 49 = .ok (.iload_n 2, 1) := by decide +kernel
theorem dX2_act_50 : decode cX2_act 50 = .ok (.imul, 1) := by decide +kernel
theorem dX2_act_51 : decode cX2_act 51 = .ok (.iadd, 1) := by decide +kernel
theorem dX2_act_52 : decode cX2_act 52 = .ok (.aload_n 0, 1) := by decide +kernel
theorem dX2_act_53 : decode cX2_act 53 = .ok (.iload_n 1, 1) := by decide +kernel
theorem dX2_act_54 : decode cX2_act 54 = .ok (.iload_n 2, 1) := by decide +kernel
theorem dX2_act_55 : decode cX2_act 55 = .ok (.invokevirtual 49, 3) := by decide +kernel
theorem dX2_act_58 : decode cX2_act 58 = .ok (.iadd, 1) := by decide +kernel
theorem dX2_act_59 : decode cX2_act 59 = .ok (.iastore, 1) := by decide +kernel
theorem dX2_act_60 : decode cX2_act 60 = .ok (.aload_n 0, 1) := by decide +kernel
theorem dX2_act_61 : decode cX2_act 61 = .ok (.dup, 1) := by decide +kernel
theorem dX2_act_62 : decode cX2_act 62 = .ok (.getfield 25, 3) := by decide +kernel
theorem dX2_act_65 : decode cX2_act 65 = .ok (.iconst 1, 1) := by decide +kernel
theorem dX2_act_66 : decode cX2_act 66 = .ok (.iadd, 1) := by decide +kernel
theorem dX2_act_67 : decode cX2_act 67 = .ok (.putfield 25, 3) := by decide +kernel
theorem dX2_act_70 : decode cX2_act 70 = .ok (.aload_n 0, 1) := by decide +kernel
theorem dX2_act_71 : decode cX2_act 71 = .ok (.iload_n 1, 1) := by decide +kernel
theorem dX2_act_72 : decode cX2_act 72 = .ok (.iload_n 2, 1) := by decide +kernel
theorem dX2_act_73 : decode cX2_act 73 = .ok (.iload_n 3, 1) := by decide +kernel
theorem dX2_act_74 : decode cX2_act 74 = .ok (.invokevirtual 53, 3) := by decide +kernel
theorem dX2_act_77 : decode cX2_act 77 = .ok (.return_, 1) := by decide +kernel

set_option maxHeartbeats 4000000 in
set_option maxRecDepth 100000 in
theorem c_X2_act (f H M k h v : Nat) (e : Lf) {n : Nat} {kd : mK} {I : mI} {J : mJ} {P : mP} (hL : kL kd P f) (hk : k < 3) (hh : h < H) (hH8 : H ≤ 8) (h2 : k = 2 → v ≤ 1) (hc : cL I f H e) (ho : okL H M e) : Ct yX2_act cX2_act 4 none 2 0 0 [.ref f, .int (nI k), .int (nI h), .int (nI v)] n kd I J P (lfG n kd I J P f H (actE e k h v) none) := by
  obtain ⟨l0, l1, l2, l3, l4, l5, q0, q1, q3, q5, q6⟩ := id hL
  have ha30 := ho.2.1.1
  have h4 := hc.2.2.1.1
  have hle := (hadE_le (k := k) hh ho).1
  refine ct_of 0 (by decide +kernel) (Nat.le_of_ble_eq_true rfl) rfl ?_
  by_cases q : e.2.2.2.1.length = 30
  · skip
    refine r_aload_n dX2_act_0 rfl ?_
    refine r_getI dX2_act_1 fl_X2_25 rfl (by assumption) ?_
    try simp (disch := omega) only [am_up_s, am_up_n]
    refine r_bipush (v := nI 30) dX2_act_4 (by decide) ?_
    refine r_icmp_ne (tgt := 34) dX2_act_6 (by decide) (fun hz => absurd (show _ from (by rw [h4, q])) hz) (fun _ => ?_)
    refine r_aload_n dX2_act_9 rfl ?_
    refine r_getR dX2_act_10 fl_X2_22 rfl (by assumption) (by assumption) ?_
    refine r_iconst (v := nI 1) dX2_act_13 (by decide) ?_
    refine r_aload_n dX2_act_14 rfl ?_
    refine r_getR dX2_act_15 fl_X2_22 rfl (by assumption) (by assumption) ?_
    refine r_iconst (v := nI 0) dX2_act_18 (by decide) ?_
    refine r_bipush (v := nI 29) dX2_act_19 (by decide) ?_
    refine r_copy (Or.inl rfl) dX2_act_21 ac_X2 l3 l3 (by decide) (by decide) (by decide) (by decide) (by decide) (fun q => nomatch q) (by decide) (Nat.le_of_ble_eq_true rfl) ?_
    refine r_aload_n dX2_act_24 rfl ?_
    refine r_dup dX2_act_25 rfl ?_
    refine r_getI dX2_act_26 fl_X2_25 rfl (by assumption) ?_
    try simp (disch := omega) only [am_up_s, am_up_n]
    refine r_iconst (v := nI 1) dX2_act_29 (by decide) ?_
    refine r_isub dX2_act_30 ?_
    rw [show I f 4 - nI 1 = nI 29 by rw [h4, q]; decide]
    refine r_putI dX2_act_31 fl_X2_25 rfl rfl (by assumption) ?_
    try simp (disch := omega) only [am_up_s, am_up_n]
    refine r_aload_n dX2_act_34 rfl ?_
    refine r_getR dX2_act_35 fl_X2_22 rfl (by assumption) (by assumption) ?_
    refine r_aload_n dX2_act_38 rfl ?_
    refine r_getI dX2_act_39 fl_X2_25 rfl l0 ?_
    try simp (disch := omega) only [am_up_s, am_up_n]
    refine r_sipush (v := nI 1000) dX2_act_42 (by decide) ?_
    refine r_iload_n dX2_act_45 rfl ?_
    refine r_imul dX2_act_46 ?_
    rw [pk_mul]
    refine r_bipush (v := nI 100) dX2_act_47 (by decide) ?_
    refine r_iload_n dX2_act_49 rfl ?_
    refine r_imul dX2_act_50 ?_
    rw [pk_mul]
    refine r_iadd dX2_act_51 ?_
    rw [nI_add]
    refine r_aload_n dX2_act_52 rfl ?_
    refine r_iload_n dX2_act_53 rfl ?_
    refine r_iload_n dX2_act_54 rfl ?_
    have hd55 := had_c (I := I) hk hh hH8 hc
    refine r_virtE (c_X2_had f h (nI k) hL (by omega)) lk_X2_49 mc_X2_had dX2_act_55 l0 (by decide) rfl rfl (Nat.le_of_ble_eq_true rfl) ?_
    try simp (disch := omega) only [am_up_s, am_up_n]
    rw [hd55]
    refine r_iadd dX2_act_58 ?_
    rw [nI_add]
    refine r_iast dX2_act_59 l3 (nI_in8 30 (by omega) (by decide)) (nI_clamp (by omega)) ?_
    refine r_aload_n dX2_act_60 rfl ?_
    refine r_dup dX2_act_61 rfl ?_
    refine r_getI dX2_act_62 fl_X2_25 rfl l0 ?_
    try simp (disch := omega) only [am_up_s, am_up_n]
    refine r_iconst (v := nI 1) dX2_act_65 (by decide) ?_
    refine r_iadd dX2_act_66 ?_
    rw [nI_add]
    refine r_putI dX2_act_67 fl_X2_25 rfl rfl (by assumption) ?_
    try simp (disch := omega) only [am_up_s, am_up_n]
    refine r_aload_n dX2_act_70 rfl ?_
    refine r_iload_n dX2_act_71 rfl ?_
    refine r_iload_n dX2_act_72 rfl ?_
    refine r_iload_n dX2_act_73 rfl ?_
    refine r_virtV (c_X2_put f h (nI k) (nI v) hL (by omega)) lk_X2_53 mc_X2_put dX2_act_74 l0 (by decide) rfl rfl (Nat.le_of_ble_eq_true rfl) ?_
    refine r_vret rfl dX2_act_77 ?_
    refine ⟨rfl, rfl, rfl, rfl, rfl, fun x hx => ?_, cL_put hk hh hH8 h2 (cL_setA (I := I) (fun a a1 a2 a3 => ?_) ?_ ?_ ?_ (fun j hj => ?_) hc)⟩
    · rw [putL_fr hx]
      simp (disch := omega) only [am_up_s, am_up_n]
    · simp (disch := omega) only [am_up_s, am_up_n]
    · simp (disch := omega) only [am_up_s, am_up_n]
    · simp (disch := omega) only [am_up_s, am_up_n]
    · rw [pushA_len ha30]
      simp only [q, if_true]
      simp (disch := omega) only [am_up_s, am_up_n]
    · rw [pushA_len ha30] at hj
      rw [pushA_at ha30 (by rw [pushA_len ha30]; exact hj), pushA_len ha30]
      simp only [q, if_true] at hj ⊢
      simp (disch := omega) only [am_up_s, am_up_n]
      by_cases r : j = 29
      · rw [if_pos (by omega), r, am_up_s]
        rfl
      · rw [if_neg (by omega), am_up_n _ _ r]
        have h5 := hc.2.2.1.2 (j + 1) (by omega)
        rw [← h5]
        have e29 : (nI 1).toNatClampNeg = 1 ∧ (nI 0).toNatClampNeg = 0 ∧ (nI 29).toNatClampNeg = 29 := ⟨by decide, by decide, by decide⟩
        rw [e29.1, e29.2.1, e29.2.2]
        unfold va_cpy
        first | rw [if_pos (by omega)] | simp [show j < 29 by omega]
        first | rfl | (congr 1; omega)
  · skip
    refine r_aload_n dX2_act_0 rfl ?_
    refine r_getI dX2_act_1 fl_X2_25 rfl (by assumption) ?_
    try simp (disch := omega) only [am_up_s, am_up_n]
    refine r_bipush (v := nI 30) dX2_act_4 (by decide) ?_
    refine r_icmp_ne (tgt := 34) dX2_act_6 (by decide) (fun _ => ?_) (fun hz => absurd hz (show ¬ _ from (by rw [h4, nI_eq (by omega) (by decide)]; exact q)))
    refine r_aload_n dX2_act_34 rfl ?_
    refine r_getR dX2_act_35 fl_X2_22 rfl (by assumption) (by assumption) ?_
    refine r_aload_n dX2_act_38 rfl ?_
    refine r_getI dX2_act_39 fl_X2_25 rfl l0 ?_
    try simp (disch := omega) only [am_up_s, am_up_n]
    rw [h4]
    refine r_sipush (v := nI 1000) dX2_act_42 (by decide) ?_
    refine r_iload_n dX2_act_45 rfl ?_
    refine r_imul dX2_act_46 ?_
    rw [pk_mul]
    refine r_bipush (v := nI 100) dX2_act_47 (by decide) ?_
    refine r_iload_n dX2_act_49 rfl ?_
    refine r_imul dX2_act_50 ?_
    rw [pk_mul]
    refine r_iadd dX2_act_51 ?_
    rw [nI_add]
    refine r_aload_n dX2_act_52 rfl ?_
    refine r_iload_n dX2_act_53 rfl ?_
    refine r_iload_n dX2_act_54 rfl ?_
    have hd55 := had_c (I := I) hk hh hH8 hc
    refine r_virtE (c_X2_had f h (nI k) hL (by omega)) lk_X2_49 mc_X2_had dX2_act_55 l0 (by decide) rfl rfl (Nat.le_of_ble_eq_true rfl) ?_
    try simp (disch := omega) only [am_up_s, am_up_n]
    rw [hd55]
    refine r_iadd dX2_act_58 ?_
    rw [nI_add]
    refine r_iast dX2_act_59 l3 (nI_in8 30 (by omega) (by decide)) (nI_clamp (by omega)) ?_
    refine r_aload_n dX2_act_60 rfl ?_
    refine r_dup dX2_act_61 rfl ?_
    refine r_getI dX2_act_62 fl_X2_25 rfl l0 ?_
    try simp (disch := omega) only [am_up_s, am_up_n]
    rw [h4]
    refine r_iconst (v := nI 1) dX2_act_65 (by decide) ?_
    refine r_iadd dX2_act_66 ?_
    rw [nI_add]
    refine r_putI dX2_act_67 fl_X2_25 rfl rfl (by assumption) ?_
    try simp (disch := omega) only [am_up_s, am_up_n]
    refine r_aload_n dX2_act_70 rfl ?_
    refine r_iload_n dX2_act_71 rfl ?_
    refine r_iload_n dX2_act_72 rfl ?_
    refine r_iload_n dX2_act_73 rfl ?_
    refine r_virtV (c_X2_put f h (nI k) (nI v) hL (by omega)) lk_X2_53 mc_X2_put dX2_act_74 l0 (by decide) rfl rfl (Nat.le_of_ble_eq_true rfl) ?_
    refine r_vret rfl dX2_act_77 ?_
    refine ⟨rfl, rfl, rfl, rfl, rfl, fun x hx => ?_, cL_put hk hh hH8 h2 (cL_setA (I := I) (fun a a1 a2 a3 => ?_) ?_ ?_ ?_ (fun j hj => ?_) hc)⟩
    · rw [putL_fr hx]
      simp (disch := omega) only [am_up_s, am_up_n]
    · simp (disch := omega) only [am_up_s, am_up_n]
    · simp (disch := omega) only [am_up_s, am_up_n]
    · simp (disch := omega) only [am_up_s, am_up_n]
    · rw [pushA_len ha30]
      simp only [q, if_false]
      simp (disch := omega) only [am_up_s, am_up_n]
    · rw [pushA_len ha30] at hj
      rw [pushA_at ha30 (by rw [pushA_len ha30]; exact hj), pushA_len ha30]
      simp only [q, if_false] at hj ⊢
      simp (disch := omega) only [am_up_s, am_up_n]
      by_cases r : j = e.2.2.2.1.length
      · rw [if_pos (by omega), r, am_up_s]
        rfl
      · rw [if_neg (by omega), am_up_n _ _ r]
        exact hc.2.2.1.2 j (by omega)

theorem ac_dec {a b c : Nat} (ha : a < 3) (hb : b < 8) (hc : c ≤ 99) : acN (a, b, c) / 1000 = a ∧ acN (a, b, c) / 100 % 10 = b ∧ acN (a, b, c) % 100 = c ∧ acN (a, b, c) < 10000 := by
  unfold acN
  simp only
  omega
theorem dX2_takeBackAct_0 : decode cX2_takeBackAct 0 = .ok (.aload_n 0, 1) := by decide +kernel
theorem dX2_takeBackAct_1 : decode cX2_takeBackAct 1 = .ok (.getfield 25, 3) := by decide +kernel
theorem dX2_takeBackAct_4 : decode cX2_takeBackAct 4 = .ok (.iconst 1, 1) := by decide +kernel
theorem dX2_takeBackAct_5 : decode cX2_takeBackAct 5 = .ok (.if_icmp .ge 4, 3) := by decide +kernel
theorem dX2_takeBackAct_8 : decode cX2_takeBackAct 8 = .ok (.return_, 1) := by decide +kernel
theorem dX2_takeBackAct_9 : decode cX2_takeBackAct 9 = .ok (.aload_n 0, 1) := by decide +kernel
theorem dX2_takeBackAct_10 : decode cX2_takeBackAct 10 = .ok (.dup, 1) := by decide +kernel
theorem dX2_takeBackAct_11 : decode cX2_takeBackAct 11 = .ok (.getfield 25, 3) := by decide +kernel
theorem dX2_takeBackAct_14 : decode cX2_takeBackAct 14 = .ok (.iconst 1, 1) := by decide +kernel
theorem dX2_takeBackAct_15 : decode cX2_takeBackAct 15 = .ok (.isub, 1) := by decide +kernel
theorem dX2_takeBackAct_16 : decode cX2_takeBackAct 16 = .ok (.putfield 25, 3) := by decide +kernel
theorem dX2_takeBackAct_19 : decode cX2_takeBackAct 19 = .ok (.aload_n 0, 1) := by decide +kernel
theorem dX2_takeBackAct_20 : decode cX2_takeBackAct 20 = .ok (.getfield 22, 3) := by decide +kernel
theorem dX2_takeBackAct_23 : decode cX2_takeBackAct 23 = .ok (.aload_n 0, 1) := by decide +kernel
theorem dX2_takeBackAct_24 : decode cX2_takeBackAct 24 = .ok (.getfield 25, 3) := by decide +kernel
theorem dX2_takeBackAct_27 : decode cX2_takeBackAct 27 = .ok (.iaload, 1) := by decide +kernel
theorem dX2_takeBackAct_28 : decode cX2_takeBackAct 28 = .ok (.istore_n 1, 1) := by decide +kernel
theorem dX2_takeBackAct_29 : decode cX2_takeBackAct 29 = .ok (.aload_n 0, 1) := by decide +kernel
theorem dX2_takeBackAct_30 : decode cX2_takeBackAct 30 = .ok (.iload_n 1, 1) := by decide +kernel
theorem dX2_takeBackAct_31 : decode cX2_takeBackAct 31 = .ok (.sipush 1000, 3) := by decide +kernel
theorem dX2_takeBackAct_34 : decode cX2_takeBackAct 34 = .ok (.idiv, 1) := by decide +kernel
theorem dX2_takeBackAct_35 : decode cX2_takeBackAct 35 = .ok (.iload_n 1, 1) := by decide +kernel
theorem dX2_takeBackAct_36 : decode cX2_takeBackAct 36 = .ok (.bipush 100, 2) := by decide +kernel
theorem dX2_takeBackAct_38 : decode cX2_takeBackAct 38 = .ok (.idiv, 1) := by decide +kernel
theorem dX2_takeBackAct_39 : decode cX2_takeBackAct 39 = .ok (.bipush 10, 2) := by decide +kernel
theorem dX2_takeBackAct_41 : decode cX2_takeBackAct 41 = .ok (.irem, 1) := by decide +kernel
theorem dX2_takeBackAct_42 : decode cX2_takeBackAct 42 = .ok (.iload_n 1, 1) := by decide +kernel
theorem dX2_takeBackAct_43 : decode cX2_takeBackAct 43 = .ok (.bipush 100, 2) := by decide +kernel
theorem dX2_takeBackAct_45 : decode cX2_takeBackAct 45 = .ok (.irem, 1) := by decide +kernel
theorem dX2_takeBackAct_46 : decode cX2_takeBackAct 46 = .ok (.invokevirtual 53, 3) := by decide +kernel
theorem dX2_takeBackAct_49 : decode cX2_takeBackAct 49 = .ok (.return_, 1) := by decide +kernel

set_option maxHeartbeats 4000000 in
set_option maxRecDepth 100000 in
theorem c_X2_takeBackAct (f H M : Nat) (e : Lf) {n : Nat} {kd : mK} {I : mI} {J : mJ} {P : mP} (hL : kL kd P f) (hH8 : H ≤ 8) (hc : cL I f H e) (ho : okL H M e) (hne : e.2.2.2.1 ≠ []) : Ct yX2_takeBackAct cX2_takeBackAct 2 none 2 0 0 [.ref f] n kd I J P (lfG n kd I J P f H (bkE e) none) := by
  obtain ⟨l0, l1, l2, l3, l4, l5, q0, q1, q3, q5, q6⟩ := id hL
  have h4 := hc.2.2.1.1
  have ha30 := ho.2.1.1
  have hpos := List.length_pos_iff.mpr hne
  have hla := ho.2.1.2 _ (lastA_in hne)
  have hd := ac_dec hla.1 (show (lastA e).2.1 < 8 by omega) hla.2.2.1
  have hd9 : acN ((lastA e).1, (lastA e).2.1, (lastA e).2.2) = acN (e.2.2.2.1.getD (e.2.2.2.1.length - 1) (0, 0, 0)) := rfl
  rw [hd9] at hd
  refine ct_of 1 (by decide +kernel) (Nat.le_of_ble_eq_true rfl) rfl ?_
  refine r_aload_n dX2_takeBackAct_0 rfl ?_
  refine r_getI dX2_takeBackAct_1 fl_X2_25 rfl (by assumption) ?_
  try simp (disch := omega) only [am_up_s, am_up_n]
  refine r_iconst (v := nI 1) dX2_takeBackAct_4 (by decide) ?_
  refine r_icmp_ge (tgt := 9) dX2_takeBackAct_5 (by decide) (fun _ => ?_) (fun hz => absurd (show _ from (by rw [h4, nI_leI (by decide) (by omega)]; omega)) hz)
  refine r_aload_n dX2_takeBackAct_9 rfl ?_
  refine r_dup dX2_takeBackAct_10 rfl ?_
  refine r_getI dX2_takeBackAct_11 fl_X2_25 rfl (by assumption) ?_
  try simp (disch := omega) only [am_up_s, am_up_n]
  refine r_iconst (v := nI 1) dX2_takeBackAct_14 (by decide) ?_
  refine r_isub dX2_takeBackAct_15 ?_
  rw [h4, pk_sub (by omega)]
  refine r_putI dX2_takeBackAct_16 fl_X2_25 rfl rfl (by assumption) ?_
  try simp (disch := omega) only [am_up_s, am_up_n]
  refine r_aload_n dX2_takeBackAct_19 rfl ?_
  refine r_getR dX2_takeBackAct_20 fl_X2_22 rfl (by assumption) (by assumption) ?_
  refine r_aload_n dX2_takeBackAct_23 rfl ?_
  refine r_getI dX2_takeBackAct_24 fl_X2_25 rfl (by assumption) ?_
  try simp (disch := omega) only [am_up_s, am_up_n]
  refine r_iald dX2_takeBackAct_27 l3 (nI_in8 30 (by omega) (by decide)) (nI_clamp (by omega)) ?_
  try simp (disch := omega) only [am_up_s, am_up_n]
  rw [hc.2.2.1.2 (e.2.2.2.1.length - 1) (by omega)]
  refine r_istore_n dX2_takeBackAct_28 (by decide) ?_
  refine r_aload_n dX2_takeBackAct_29 rfl ?_
  refine r_iload_n dX2_takeBackAct_30 rfl ?_
  refine r_sipush (v := nI 1000) dX2_takeBackAct_31 (by decide) ?_
  refine r_idiv dX2_takeBackAct_34 (by decide) ?_
  rw [pk_div (by omega) (by omega) (by omega), hd.1]
  refine r_iload_n dX2_takeBackAct_35 rfl ?_
  refine r_bipush (v := nI 100) dX2_takeBackAct_36 (by decide) ?_
  refine r_idiv dX2_takeBackAct_38 (by decide) ?_
  rw [pk_div (by omega) (by omega) (by omega)]
  refine r_bipush (v := nI 10) dX2_takeBackAct_39 (by decide) ?_
  refine r_irem dX2_takeBackAct_41 (by decide) ?_
  rw [pk_rem (by omega) (by omega) (by omega), hd.2.1]
  refine r_iload_n dX2_takeBackAct_42 rfl ?_
  refine r_bipush (v := nI 100) dX2_takeBackAct_43 (by decide) ?_
  refine r_irem dX2_takeBackAct_45 (by decide) ?_
  rw [pk_rem (by omega) (by omega) (by omega), hd.2.2.1]
  refine r_virtV (c_X2_put f (lastA e).2.1 (nI (lastA e).1) (nI (lastA e).2.2) hL (by omega)) lk_X2_53 mc_X2_put dX2_takeBackAct_46 l0 (by decide) rfl rfl (Nat.le_of_ble_eq_true rfl) ?_
  refine r_vret rfl dX2_takeBackAct_49 ?_
  refine ⟨rfl, rfl, rfl, rfl, rfl, fun x hx => ?_, cL_put hla.1 hla.2.1 hH8 hla.2.2.2 (cL_setA (I := I) (fun a a1 a2 a3 => ?_) ?_ ?_ ?_ (fun j hj => ?_) hc)⟩
  · rw [putL_fr hx]
    simp (disch := omega) only [am_up_s, am_up_n]
  · simp (disch := omega) only [am_up_s, am_up_n]
  · simp (disch := omega) only [am_up_s, am_up_n]
  · simp (disch := omega) only [am_up_s, am_up_n]
  · simp (disch := omega) only [am_up_s, am_up_n]
    rw [List.length_dropLast]
  · rw [List.length_dropLast] at hj
    simp (disch := omega) only [am_up_s, am_up_n]
    rw [hc.2.2.1.2 j (by omega), List.getD_eq_getElem?_getD, List.getD_eq_getElem?_getD, List.getElem?_dropLast, if_pos (by omega)]


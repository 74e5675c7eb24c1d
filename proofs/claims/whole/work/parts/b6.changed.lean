/-! CHANGED, on any state, both sides -/
def chC (A B : Nat → Nat) : Nat → Nat
  | 0 => 0
  | k + 1 => chC A B k + if A k = B k then 0 else 1
def chF (A B : Nat → Nat) : Nat → Nat
  | 0 => 0
  | k + 1 => chF A B k + dst (A k) (B k)
theorem dst_sy (p l : Nat) : dst p l = dst l p := by unfold dst; split <;> split <;> omega
theorem chC_le (A B : Nat → Nat) : ∀ k, chC A B k ≤ k
  | 0 => Nat.le_refl _
  | k + 1 => by
    show chC A B k + _ ≤ k + 1
    have := chC_le A B k
    split <;> omega
def chV (H M : Nat) (un : Bool) (cs : Nat → List Nat) (e e' : Lf) (what : Nat) : Int32 := if gdN H M un cs e = true then (if gdN H M un cs e' = true then (if what = 0 then nI (chC (mayN (fsN H M un cs e)) (mayN (fsN H M un cs e')) H) else if (fsN H M un cs e).length = 0 ∨ (fsN H M un cs e').length = 0 then -1 else nI (chF (nmF (fsN H M un cs e) 0) (nmF (fsN H M un cs e') 0) H)) else -2) else -2
theorem CR.tl {o b s f l n t : Nat} {kd : mK} {I I' : mI} {J : mJ} {P : mP} {T : Nat → Nat} {fp : Int32} {rr : Nat → Int32} {H M : Nat} {un : Bool} {cs : Nat → List Nat} {tx : Nat → List Int32} {e : Lf} {im : Option Lf} {wk : Option (List Nat)} (hf : ∀ a, (a < l ∨ l + 5 < a) → I' a = I a) (hC : CR o b s f l n kd I J P t T fp rr H M un cs tx e im wk) : CR o b s f l n kd I' J P t T fp rr H M un cs tx e im wk := by
  have hat := hC.1.at
  exact CR.qu (I := I) (J := J) hC.1 hC.2.1 (hf o (by omega)) (fun a a1 a2 a3 a4 a5 a6 a7 a8 a9 a10 => hf a (by omega)) rfl hC
theorem Bs.tl {o l : Nat} {I0 I I' : mI} {J0 J : mJ} {P0 P : mP} (hl : l + 5 < o + 69) (hf : ∀ a, (a < l ∨ l + 5 < a) → I' a = I a) (h : Bs o I0 I J0 J P0 P) : Bs o I0 I' J0 J P0 P := ⟨fun a x1 y1 => ⟨(hf a (by omega)).trans (h.1 a x1 y1).1, (h.1 a x1 y1).2⟩, h.2⟩
theorem putE_back {e : Lf} {k h v : Nat} (hk : k < 2) : putE (putE e k h v) k h (hadE e k h) = e := by
  rcases (show k = 0 ∨ k = 1 by omega) with q | q <;> subst q
  · unfold putE hadE
    rw [if_pos rfl, if_pos rfl, if_pos rfl]
    show ((fun j => if j = h then e.1 h else if j = h then v else e.1 j), e.2) = e
    have : (fun j => if j = h then e.1 h else if j = h then v else e.1 j) = e.1 := by
      funext j
      by_cases q : j = h
      · rw [if_pos q, q]
      · rw [if_neg q, if_neg q]
    rw [this]
  · unfold putE hadE
    rw [if_neg (by decide), if_pos rfl, if_neg (by decide), if_pos rfl, if_neg (by decide), if_pos rfl]
    show (e.1, (fun j => if j = h then e.2.1 h else if j = h then v else e.2.1 j), e.2.2) = e
    have : (fun j => if j = h then e.2.1 h else if j = h then v else e.2.1 j) = e.2.1 := by
      funext j
      by_cases q : j = h
      · rw [if_pos q, q]
      · rw [if_neg q, if_neg q]
    rw [this]
theorem dX9_housesChanged_0 : decode cX9_housesChanged 0 = .ok (.iconst 0, 1) := by decide +kernel
theorem dX9_housesChanged_1 : decode cX9_housesChanged 1 = .ok (.istore_n 2, 1) := by decide +kernel
theorem dX9_housesChanged_2 : decode cX9_housesChanged 2 = .ok (.iconst 0, 1) := by decide +kernel
theorem dX9_housesChanged_3 : decode cX9_housesChanged 3 = .ok (.istore_n 3, 1) := by decide +kernel
theorem dX9_housesChanged_4 : decode cX9_housesChanged 4 = .ok (.iload_n 3, 1) := by decide +kernel
theorem dX9_housesChanged_5 : decode cX9_housesChanged 5 = .ok (.aload_n 0, 1) := by decide +kernel
theorem dX9_housesChanged_6 : decode cX9_housesChanged 6 = .ok (.getfield 27, 3) := by decide +kernel
theorem dX9_housesChanged_9 : decode cX9_housesChanged 9 = .ok (.getfield 124, 3) := by decide +kernel
theorem dX9_housesChanged_12 : decode cX9_housesChanged 12 = .ok (.if_icmp .ge 30, 3) := by decide +kernel
theorem dX9_housesChanged_15 : decode cX9_housesChanged 15 = .ok (.aload_n 0, 1) := by decide +kernel
theorem dX9_housesChanged_16 : decode cX9_housesChanged 16 = .ok (.getfield 54, 3) := by decide +kernel
theorem dX9_housesChanged_19 : decode cX9_housesChanged 19 = .ok (.getfield 195, 3) := by decide +kernel
theorem dX9_housesChanged_22 : decode cX9_housesChanged 22 = .ok (.iload_n 3, 1) := by decide +kernel
theorem dX9_housesChanged_23 : decode cX9_housesChanged 23 = .ok (.iaload, 1) := by decide +kernel
theorem dX9_housesChanged_24 : decode cX9_housesChanged 24 = .ok (.aload_n 1, 1) := by decide +kernel
theorem dX9_housesChanged_25 : decode cX9_housesChanged 25 = .ok (.getfield 195, 3) := by decide +kernel
theorem dX9_housesChanged_28 : decode cX9_housesChanged 28 = .ok (.iload_n 3, 1) := by decide +kernel
theorem dX9_housesChanged_29 : decode cX9_housesChanged 29 = .ok (.iaload, 1) := by decide +kernel
theorem dX9_housesChanged_30 : decode cX9_housesChanged 30 = .ok (.if_icmp .eq 6, 3) := by decide +kernel
theorem dX9_housesChanged_33 : decode cX9_housesChanged 33 = .ok (.iinc 2 1, 3) := by decide +kernel
theorem dX9_housesChanged_36 : decode cX9_housesChanged 36 = .ok (.iinc 3 1, 3) := by decide +kernel
theorem dX9_housesChanged_39 : decode cX9_housesChanged 39 = .ok (.goto (-35), 3) := by decide +kernel
theorem dX9_housesChanged_42 : decode cX9_housesChanged 42 = .ok (.iload_n 2, 1) := by decide +kernel
theorem dX9_housesChanged_43 : decode cX9_housesChanged 43 = .ok (.ireturn, 1) := by decide +kernel

set_option maxHeartbeats 4000000 in
set_option maxRecDepth 100000 in
theorem w_houses (o b s1 q H : Nat) (A B : Nat → Nat) {n : Nat} {kd : mK} {I : mI} {J : mJ} {P : mP} (x0 : kd o = some (0, 9)) (p4 : P o 4 = some b) (p10 : P o 10 = some s1) (hb : kd b = some (0, 7)) (hH : I b 0 = nI H) (hH8 : H ≤ 8) (h1 : kQ kd P s1) (h2 : kQ kd P q) (hA : ∀ h, h < H → I (s1 + 5) h = nI (A h) ∧ A h < 2 ^ 31) (hB : ∀ h, h < H → I (q + 5) h = nI (B h) ∧ B h < 2 ^ 31) : ∀ (c k : Nat), k + c = H → Ru yX9_housesChanged.cls cX9_housesChanged 4 (some .int) yX9_housesChanged.name 2 (am_is (some (.int (nI (chC A B H)))) n kd I J P) 0 0 4 [some (.ref o), some (.ref q), some (.int (nI (chC A B k))), some (.int (nI k))] [] n kd I J P
  | 0, k, hc => by
    rw [show k = H by omega]
    refine r_iload_n dX9_housesChanged_4 rfl ?_
    refine r_aload_n dX9_housesChanged_5 rfl ?_
    refine r_getR dX9_housesChanged_6 fl_X9_27 rfl x0 p4 ?_
    refine r_getI dX9_housesChanged_9 fl_X9_124 rfl hb ?_
    rw [hH]
    refine r_icmp_ge (tgt := 42) dX9_housesChanged_12 (by decide) (fun _ => ?_) (fun hz => absurd (show _ from (by rw [nI_leI (by omega) (by omega)]; omega)) hz)
    refine r_iload_n dX9_housesChanged_42 rfl ?_
    refine r_iret rfl dX9_housesChanged_43 ?_
    exact am_is.mk
  | c + 1, k, hc => by
    by_cases c1 : A k = B k
    · skip
      refine r_iload_n dX9_housesChanged_4 rfl ?_
      refine r_aload_n dX9_housesChanged_5 rfl ?_
      refine r_getR dX9_housesChanged_6 fl_X9_27 rfl x0 p4 ?_
      refine r_getI dX9_housesChanged_9 fl_X9_124 rfl hb ?_
      rw [hH]
      refine r_icmp_ge (tgt := 42) dX9_housesChanged_12 (by decide) (fun hz => absurd hz (show ¬ _ from (by rw [nI_leI (by omega) (by omega)]; omega))) (fun _ => ?_)
      refine r_aload_n dX9_housesChanged_15 rfl ?_
      refine r_getR dX9_housesChanged_16 fl_X9_54 rfl x0 p10 ?_
      refine r_getR dX9_housesChanged_19 fl_X9_195 rfl h1.1 h1.2.2.2.2.2.2.2.2.2.2 ?_
      refine r_iload_n dX9_housesChanged_22 rfl ?_
      refine r_iald dX9_housesChanged_23 h1.2.2.2.2.2.1 (nI_in8 8 (by omega) (by decide)) (nI_clamp (by omega)) ?_
      rw [(hA k (by omega)).1]
      refine r_aload_n dX9_housesChanged_24 rfl ?_
      refine r_getR dX9_housesChanged_25 fl_X9_195 rfl h2.1 h2.2.2.2.2.2.2.2.2.2.2 ?_
      refine r_iload_n dX9_housesChanged_28 rfl ?_
      refine r_iald dX9_housesChanged_29 h2.2.2.2.2.2.1 (nI_in8 8 (by omega) (by decide)) (nI_clamp (by omega)) ?_
      rw [(hB k (by omega)).1]
      refine r_icmp_eq (tgt := 36) dX9_housesChanged_30 (by decide) (fun _ => ?_) (fun hz => absurd (show _ from (by rw [c1])) hz)
      refine r_iinc (v := nI (k + 1)) dX9_housesChanged_36 rfl (nI_inc k) ?_
      refine r_goto (tgt := 4) dX9_housesChanged_39 (by decide) ?_
      have hx := w_houses (n := n) (J := J) o b s1 q H A B x0 p4 p10 hb hH hH8 h1 h2 hA hB c (k + 1) (by omega)
      rw [show chC A B (k + 1) = chC A B k + 0 from by show chC A B k + (if A k = B k then 0 else 1) = _; rw [if_pos c1]] at hx
      exact hx
    · skip
      refine r_iload_n dX9_housesChanged_4 rfl ?_
      refine r_aload_n dX9_housesChanged_5 rfl ?_
      refine r_getR dX9_housesChanged_6 fl_X9_27 rfl x0 p4 ?_
      refine r_getI dX9_housesChanged_9 fl_X9_124 rfl hb ?_
      rw [hH]
      refine r_icmp_ge (tgt := 42) dX9_housesChanged_12 (by decide) (fun hz => absurd hz (show ¬ _ from (by rw [nI_leI (by omega) (by omega)]; omega))) (fun _ => ?_)
      refine r_aload_n dX9_housesChanged_15 rfl ?_
      refine r_getR dX9_housesChanged_16 fl_X9_54 rfl x0 p10 ?_
      refine r_getR dX9_housesChanged_19 fl_X9_195 rfl h1.1 h1.2.2.2.2.2.2.2.2.2.2 ?_
      refine r_iload_n dX9_housesChanged_22 rfl ?_
      refine r_iald dX9_housesChanged_23 h1.2.2.2.2.2.1 (nI_in8 8 (by omega) (by decide)) (nI_clamp (by omega)) ?_
      rw [(hA k (by omega)).1]
      refine r_aload_n dX9_housesChanged_24 rfl ?_
      refine r_getR dX9_housesChanged_25 fl_X9_195 rfl h2.1 h2.2.2.2.2.2.2.2.2.2.2 ?_
      refine r_iload_n dX9_housesChanged_28 rfl ?_
      refine r_iald dX9_housesChanged_29 h2.2.2.2.2.2.1 (nI_in8 8 (by omega) (by decide)) (nI_clamp (by omega)) ?_
      rw [(hB k (by omega)).1]
      refine r_icmp_eq (tgt := 36) dX9_housesChanged_30 (by decide) (fun hz => absurd hz (show ¬ _ from (by rw [nI_eq (hA k (by omega)).2 (hB k (by omega)).2]; exact c1))) (fun _ => ?_)
      refine r_iinc (v := nI (chC A B k + 1)) dX9_housesChanged_33 rfl (nI_inc _) ?_
      refine r_iinc (v := nI (k + 1)) dX9_housesChanged_36 rfl (nI_inc k) ?_
      refine r_goto (tgt := 4) dX9_housesChanged_39 (by decide) ?_
      have hx := w_houses (n := n) (J := J) o b s1 q H A B x0 p4 p10 hb hH hH8 h1 h2 hA hB c (k + 1) (by omega)
      rw [show chC A B (k + 1) = chC A B k + 1 from by show chC A B k + (if A k = B k then 0 else 1) = _; rw [if_neg c1]] at hx
      exact hx

set_option maxHeartbeats 4000000 in
set_option maxRecDepth 100000 in
theorem c_X9_houses (o b s1 q H : Nat) (A B : Nat → Nat) {n : Nat} {kd : mK} {I : mI} {J : mJ} {P : mP} (x0 : kd o = some (0, 9)) (p4 : P o 4 = some b) (p10 : P o 10 = some s1) (hb : kd b = some (0, 7)) (hH : I b 0 = nI H) (hH8 : H ≤ 8) (h1 : kQ kd P s1) (h2 : kQ kd P q) (hA : ∀ h, h < H → I (s1 + 5) h = nI (A h) ∧ A h < 2 ^ 31) (hB : ∀ h, h < H → I (q + 5) h = nI (B h) ∧ B h < 2 ^ 31) : Ct yX9_housesChanged cX9_housesChanged 4 (some .int) 2 0 0 [.ref o, .ref q] n kd I J P (am_is (some (.int (nI (chC A B H)))) n kd I J P) := by
  refine ct_of 2 (by decide +kernel) (Nat.le_of_ble_eq_true rfl) rfl ?_
  refine r_iconst (v := nI 0) dX9_housesChanged_0 (by decide) ?_
  refine r_istore_n dX9_housesChanged_1 (by decide) ?_
  refine r_iconst (v := nI 0) dX9_housesChanged_2 (by decide) ?_
  refine r_istore_n dX9_housesChanged_3 (by decide) ?_
  exact w_houses o b s1 q H A B x0 p4 p10 hb hH hH8 h1 h2 hA hB H 0 (by omega)

theorem dX9_farFromNow_0 : decode cX9_farFromNow 0 = .ok (.aload_n 0, 1) := by decide +kernel
theorem dX9_farFromNow_1 : decode cX9_farFromNow 1 = .ok (.getfield 54, 3) := by decide +kernel
theorem dX9_farFromNow_4 : decode cX9_farFromNow 4 = .ok (.getfield 186, 3) := by decide +kernel
theorem dX9_farFromNow_7 : decode cX9_farFromNow 7 = .ok (.iconst 1, 1) := by decide +kernel
theorem dX9_farFromNow_8 : decode cX9_farFromNow 8 = .ok (.if_icmp .lt 11, 3) := by decide +kernel
theorem dX9_farFromNow_11 : decode cX9_farFromNow 11 = .ok (.aload_n 1, 1) := by decide +kernel
theorem dX9_farFromNow_12 : decode cX9_farFromNow 12 = .ok (.getfield 186, 3) := by decide +kernel
theorem dX9_farFromNow_15 : decode cX9_farFromNow 15 = .ok (.iconst 1, 1) := by decide +kernel
theorem dX9_farFromNow_16 : decode cX9_farFromNow 16 = .ok (.if_icmp .ge 5, 3) := by decide +kernel
theorem dX9_farFromNow_19 : decode cX9_farFromNow 19 = .ok (.iconst (-1), 1) := by decide +kernel
theorem dX9_farFromNow_20 : decode cX9_farFromNow 20 = .ok (.ireturn, 1) := by decide +kernel
theorem dX9_farFromNow_21 : decode cX9_farFromNow 21 = .ok (.iconst 0, 1) := by decide +kernel
theorem dX9_farFromNow_22 : decode cX9_farFromNow 22 = .ok (.istore_n 2, 1) := by decide +kernel
theorem dX9_farFromNow_23 : decode cX9_farFromNow 23 = .ok (.iconst 0, 1) := by decide +kernel
theorem dX9_farFromNow_24 : decode cX9_farFromNow 24 = .ok (.istore_n 3, 1) := by decide +kernel
theorem dX9_farFromNow_25 : decode cX9_farFromNow 25 = .ok (.iload_n 3, 1) := by decide +kernel
theorem dX9_farFromNow_26 : decode cX9_farFromNow 26 = .ok (.aload_n 0, 1) := by decide +kernel
theorem dX9_farFromNow_27 : decode cX9_farFromNow 27 = .ok (.getfield 27, 3) := by decide +kernel
theorem dX9_farFromNow_30 : decode cX9_farFromNow 30 = .ok (.getfield 124, 3) := by decide +kernel
theorem dX9_farFromNow_33 : decode cX9_farFromNow 33 = .ok (.if_icmp .ge 31, 3) := by decide +kernel
theorem dX9_farFromNow_36 : decode cX9_farFromNow 36 = .ok (.iload_n 2, 1) := by decide +kernel
theorem dX9_farFromNow_37 : decode cX9_farFromNow 37 = .ok (.aload_n 0, 1) := by decide +kernel
theorem dX9_farFromNow_38 : decode cX9_farFromNow 38 = .ok (.getfield 54, 3) := by decide +kernel
theorem dX9_farFromNow_41 : decode cX9_farFromNow 41 = .ok (.iconst 0, 1) := by decide +kernel
theorem dX9_farFromNow_42 : decode cX9_farFromNow 42 = .ok (.iload_n 3, 1) := by decide +kernel
theorem dX9_farFromNow_43 : decode cX9_farFromNow 43 = .ok (.invokevirtual 192, 3) := by decide +kernel
theorem dX9_farFromNow_46 : decode cX9_farFromNow 46 = .ok (.aload_n 1, 1) := by decide +kernel
theorem dX9_farFromNow_47 : decode cX9_farFromNow 47 = .ok (.iconst 0, 1) := by decide +kernel
theorem dX9_farFromNow_48 : decode cX9_farFromNow 48 = .ok (.iload_n 3, 1) := by decide +kernel
theorem dX9_farFromNow_49 : decode cX9_farFromNow 49 = .ok (.invokevirtual 192, 3) := by decide +kernel
theorem dX9_farFromNow_52 : decode cX9_farFromNow 52 = .ok (.isub, 1) := by decide +kernel
theorem dX9_farFromNow_53 : decode cX9_farFromNow 53 = .ok (.invokestatic 246, 3) := by decide +kernel
theorem dX9_farFromNow_56 : decode cX9_farFromNow 56 = .ok (.iadd, 1) := by decide +kernel
theorem dX9_farFromNow_57 : decode cX9_farFromNow 57 = .ok (.istore_n 2, 1) := by decide +kernel
theorem dX9_farFromNow_58 : decode cX9_farFromNow 58 = .ok (.iinc 3 1, 3) := by decide +kernel
theorem dX9_farFromNow_61 : decode cX9_farFromNow 61 = .ok (.goto (-36), 3) := by decide +kernel
theorem dX9_farFromNow_64 : decode cX9_farFromNow 64 = .ok (.iload_n 2, 1) := by decide +kernel
theorem dX9_farFromNow_65 : decode cX9_farFromNow 65 = .ok (.ireturn, 1) := by decide +kernel

set_option maxHeartbeats 4000000 in
set_option maxRecDepth 100000 in
theorem c_X9_far_no (o b s1 q H F1 F2 : Nat) {n : Nat} {kd : mK} {I : mI} {J : mJ} {P : mP} (x0 : kd o = some (0, 9)) (p4 : P o 4 = some b) (p10 : P o 10 = some s1) (hb : kd b = some (0, 7)) (hH : I b 0 = nI H) (hH8 : H ≤ 8) (h1 : kQ kd P s1) (h2 : kQ kd P q) (hF : I s1 10 = nI F1) (hF2 : I q 10 = nI F2) (hl1 : F1 ≤ 1000) (hl2 : F2 ≤ 1000) (h0 : F1 = 0 ∨ F2 = 0) : Ct yX9_farFromNow cX9_farFromNow 4 (some .int) 2 0 0 [.ref o, .ref q] n kd I J P (am_is (some (.int (-1))) n kd I J P) := by
  refine ct_of 2 (by decide +kernel) (Nat.le_of_ble_eq_true rfl) rfl ?_
  by_cases c : F1 = 0
  · skip
    refine r_aload_n dX9_farFromNow_0 rfl ?_
    refine r_getR dX9_farFromNow_1 fl_X9_54 rfl x0 p10 ?_
    refine r_getI dX9_farFromNow_4 fl_X9_186 rfl h1.1 ?_
    rw [hF]
    refine r_iconst (v := nI 1) dX9_farFromNow_7 (by decide) ?_
    refine r_icmp_lt (tgt := 19) dX9_farFromNow_8 (by decide) (fun _ => ?_) (fun hz => absurd (show _ from (by rw [nI_ltI (by omega) (by omega)]; omega)) hz)
    refine r_iconst (v := (-1)) dX9_farFromNow_19 (by decide) ?_
    refine r_iret rfl dX9_farFromNow_20 ?_
    exact am_is.mk
  · skip
    refine r_aload_n dX9_farFromNow_0 rfl ?_
    refine r_getR dX9_farFromNow_1 fl_X9_54 rfl x0 p10 ?_
    refine r_getI dX9_farFromNow_4 fl_X9_186 rfl h1.1 ?_
    rw [hF]
    refine r_iconst (v := nI 1) dX9_farFromNow_7 (by decide) ?_
    refine r_icmp_lt (tgt := 19) dX9_farFromNow_8 (by decide) (fun hz => absurd hz (show ¬ _ from (by rw [nI_ltI (by omega) (by omega)]; omega))) (fun _ => ?_)
    refine r_aload_n dX9_farFromNow_11 rfl ?_
    refine r_getI dX9_farFromNow_12 fl_X9_186 rfl h2.1 ?_
    rw [hF2]
    refine r_iconst (v := nI 1) dX9_farFromNow_15 (by decide) ?_
    refine r_icmp_ge (tgt := 21) dX9_farFromNow_16 (by decide) (fun hz => absurd hz (show ¬ _ from (by rw [nI_leI (by omega) (by omega)]; omega))) (fun _ => ?_)
    refine r_iconst (v := (-1)) dX9_farFromNow_19 (by decide) ?_
    refine r_iret rfl dX9_farFromNow_20 ?_
    exact am_is.mk

set_option maxHeartbeats 4000000 in
set_option maxRecDepth 100000 in
theorem w_far (o b s1 q H F1 F2 : Nat) (A B : Nat → Nat) {n : Nat} {kd : mK} {I : mI} {J : mJ} {P : mP} (x0 : kd o = some (0, 9)) (p4 : P o 4 = some b) (p10 : P o 10 = some s1) (hb : kd b = some (0, 7)) (hH : I b 0 = nI H) (hH8 : H ≤ 8) (h1 : kQ kd P s1) (h2 : kQ kd P q) (hF : I s1 10 = nI F1) (hF2 : I q 10 = nI F2) (hl1 : F1 ≤ 1000) (hl2 : F2 ≤ 1000) (hA : ∀ h, h < H → (J (s1 + 4) 0 >>> ((nI 5 * nI h).toInt64 &&& 63)).toInt32 &&& nI 31 = nI (A h) ∧ A h < 2 ^ 30) (hB : ∀ h, h < H → (J (q + 4) 0 >>> ((nI 5 * nI h).toInt64 &&& 63)).toInt32 &&& nI 31 = nI (B h) ∧ B h < 2 ^ 30) : ∀ (c k : Nat), k + c = H → Ru yX9_farFromNow.cls cX9_farFromNow 4 (some .int) yX9_farFromNow.name 2 (am_is (some (.int (nI (chF A B H)))) n kd I J P) 0 0 25 [some (.ref o), some (.ref q), some (.int (nI (chF A B k))), some (.int (nI k))] [] n kd I J P
  | 0, k, hc => by
    rw [show k = H by omega]
    refine r_iload_n dX9_farFromNow_25 rfl ?_
    refine r_aload_n dX9_farFromNow_26 rfl ?_
    refine r_getR dX9_farFromNow_27 fl_X9_27 rfl x0 p4 ?_
    refine r_getI dX9_farFromNow_30 fl_X9_124 rfl hb ?_
    rw [hH]
    refine r_icmp_ge (tgt := 64) dX9_farFromNow_33 (by decide) (fun _ => ?_) (fun hz => absurd (show _ from (by rw [nI_leI (by omega) (by omega)]; omega)) hz)
    refine r_iload_n dX9_farFromNow_64 rfl ?_
    refine r_iret rfl dX9_farFromNow_65 ?_
    exact am_is.mk
  | c + 1, k, hc => by
    refine r_iload_n dX9_farFromNow_25 rfl ?_
    refine r_aload_n dX9_farFromNow_26 rfl ?_
    refine r_getR dX9_farFromNow_27 fl_X9_27 rfl x0 p4 ?_
    refine r_getI dX9_farFromNow_30 fl_X9_124 rfl hb ?_
    rw [hH]
    refine r_icmp_ge (tgt := 64) dX9_farFromNow_33 (by decide) (fun hz => absurd hz (show ¬ _ from (by rw [nI_leI (by omega) (by omega)]; omega))) (fun _ => ?_)
    refine r_iload_n dX9_farFromNow_36 rfl ?_
    refine r_aload_n dX9_farFromNow_37 rfl ?_
    refine r_getR dX9_farFromNow_38 fl_X9_54 rfl x0 p10 ?_
    refine r_iconst (v := nI 0) dX9_farFromNow_41 (by decide) ?_
    refine r_iload_n dX9_farFromNow_42 rfl ?_
    refine r_virtE (c_numN s1 0 k (A k) h1.1 h1.2.2.2.2.2.2.2.2.2.1 h1.2.2.2.2.1 (by decide) (hA k (by omega)).1) lk_X9_192 mc_X6_numberIn dX9_farFromNow_43 h1.1 (by decide) rfl rfl (Nat.le_of_ble_eq_true rfl) ?_
    refine r_aload_n dX9_farFromNow_46 rfl ?_
    refine r_iconst (v := nI 0) dX9_farFromNow_47 (by decide) ?_
    refine r_iload_n dX9_farFromNow_48 rfl ?_
    refine r_virtE (c_numN q 0 k (B k) h2.1 h2.2.2.2.2.2.2.2.2.2.1 h2.2.2.2.2.1 (by decide) (hB k (by omega)).1) lk_X9_192 mc_X6_numberIn dX9_farFromNow_49 h2.1 (by decide) rfl rfl (Nat.le_of_ble_eq_true rfl) ?_
    refine r_isub dX9_farFromNow_52 ?_
    refine r_mabs dX9_farFromNow_53 mm_X9_246 (by decide) (Nat.le_of_ble_eq_true rfl) ?_
    rw [ab_nI (hA k (by omega)).2 (hB k (by omega)).2]
    refine r_iadd dX9_farFromNow_56 ?_
    rw [nI_add]
    refine r_istore_n dX9_farFromNow_57 (by decide) ?_
    refine r_iinc (v := nI (k + 1)) dX9_farFromNow_58 rfl (nI_inc k) ?_
    refine r_goto (tgt := 25) dX9_farFromNow_61 (by decide) ?_
    exact w_far o b s1 q H F1 F2 A B x0 p4 p10 hb hH hH8 h1 h2 hF hF2 hl1 hl2 hA hB c (k + 1) (by omega)

set_option maxHeartbeats 4000000 in
set_option maxRecDepth 100000 in
theorem c_X9_far (o b s1 q H F1 F2 : Nat) (A B : Nat → Nat) {n : Nat} {kd : mK} {I : mI} {J : mJ} {P : mP} (x0 : kd o = some (0, 9)) (p4 : P o 4 = some b) (p10 : P o 10 = some s1) (hb : kd b = some (0, 7)) (hH : I b 0 = nI H) (hH8 : H ≤ 8) (h1 : kQ kd P s1) (h2 : kQ kd P q) (hF : I s1 10 = nI F1) (hF2 : I q 10 = nI F2) (hl1 : F1 ≤ 1000) (hl2 : F2 ≤ 1000) (hA : ∀ h, h < H → (J (s1 + 4) 0 >>> ((nI 5 * nI h).toInt64 &&& 63)).toInt32 &&& nI 31 = nI (A h) ∧ A h < 2 ^ 30) (hB : ∀ h, h < H → (J (q + 4) 0 >>> ((nI 5 * nI h).toInt64 &&& 63)).toInt32 &&& nI 31 = nI (B h) ∧ B h < 2 ^ 30) (h0 : 1 ≤ F1) (h9 : 1 ≤ F2) : Ct yX9_farFromNow cX9_farFromNow 4 (some .int) 2 0 0 [.ref o, .ref q] n kd I J P (am_is (some (.int (nI (chF A B H)))) n kd I J P) := by
  refine ct_of 2 (by decide +kernel) (Nat.le_of_ble_eq_true rfl) rfl ?_
  refine r_aload_n dX9_farFromNow_0 rfl ?_
  refine r_getR dX9_farFromNow_1 fl_X9_54 rfl x0 p10 ?_
  refine r_getI dX9_farFromNow_4 fl_X9_186 rfl h1.1 ?_
  rw [hF]
  refine r_iconst (v := nI 1) dX9_farFromNow_7 (by decide) ?_
  refine r_icmp_lt (tgt := 19) dX9_farFromNow_8 (by decide) (fun hz => absurd hz (show ¬ _ from (by rw [nI_ltI (by omega) (by omega)]; omega))) (fun _ => ?_)
  refine r_aload_n dX9_farFromNow_11 rfl ?_
  refine r_getI dX9_farFromNow_12 fl_X9_186 rfl h2.1 ?_
  rw [hF2]
  refine r_iconst (v := nI 1) dX9_farFromNow_15 (by decide) ?_
  refine r_icmp_ge (tgt := 21) dX9_farFromNow_16 (by decide) (fun _ => ?_) (fun hz => absurd (show _ from (by rw [nI_leI (by omega) (by omega)]; omega)) hz)
  refine r_iconst (v := nI 0) dX9_farFromNow_21 (by decide) ?_
  refine r_istore_n dX9_farFromNow_22 (by decide) ?_
  refine r_iconst (v := nI 0) dX9_farFromNow_23 (by decide) ?_
  refine r_istore_n dX9_farFromNow_24 (by decide) ?_
  exact w_far o b s1 q H F1 F2 A B x0 p4 p10 hb hH hH8 h1 h2 hF hF2 hl1 hl2 hA hB H 0 (by omega)


set_option maxHeartbeats 4000000 in
set_option maxRecDepth 100000 in
theorem k_changed_no1 (o b s f l : Nat) (h : Nat) (y z u : Int32) {t : Nat} {T : Nat → Nat} {fp : Int32} {rr : Nat → Int32} {H M : Nat} {un : Bool} {cs : Nat → List Nat} {tx : Nat → List Int32} {e : Lf} {im : Option Lf} {wk : Option (List Nat)} {n : Nat} {kd : mK} {I : mI} {J : mJ} {P : mP} (hC : CR o b s f l n kd I J P t T fp rr H M un cs tx e im wk) (hz : okZ t T H M cs e) (hh : h < H) (hy : (!decide (y < 0) && decide (y < nI 2)) = false) : Ct yX9_changed cX9_changed 6 (some .int) 9 1 6 [.ref o, .int (nI h), .int y, .int z, .int u] n kd I J P (fun z n' kd' I' J' P' => z = .inr "java/util/NoSuchElementException" ∧ n' = n ∧ kd' = kd ∧ I' = I ∧ J' = J ∧ P' = P) := by
  obtain ⟨hX, hsc, hT, hSt, hLf, hIm, hWk, hQc, hPc⟩ := hC
  obtain ⟨okt, oks, okl⟩ := hz
  have hS := hX.S
  have hL := hX.L
  have hat := hX.at
  have hH8 : H ≤ 8 := oks.2.1
  have hM20 : 2 ≤ M ∧ M ≤ 20 := oks.1
  have hH : I b 0 = nI H := hSt.1.1
  have hMo : I b 1 = nI M := hSt.2.1
  obtain ⟨⟨x0, x1, x2⟩, -, ⟨-, -, hLk⟩, ⟨hQ, hA, hG, hW, hRd, hD, hPg⟩, ⟨p0, p3, p8, p10, p12, p13, p14, p15, p16, p17⟩, ⟨p4, p5, p6, p7⟩, -, -, -⟩ := id hX
  refine ct_of 1 (by decide +kernel) (Nat.le_of_ble_eq_true rfl) rfl ?_
  refine r_aload_n dX9_changed_0 rfl ?_
  refine r_iload_n dX9_changed_1 rfl ?_
  refine r_virtV (m0_House o b (nI h) x0 p4 hS.1 (by rw [hH]; exact (isH_of hh (by omega)))) lk_X9_142 mc_X9_mustBeHouse dX9_changed_2 x0 (by decide) rfl rfl (Nat.le_of_ble_eq_true rfl) ?_
  refine r_aload_n dX9_changed_5 rfl ?_
  refine r_iload_n dX9_changed_6 rfl ?_
  refine r_iconst (v := nI 2) dX9_changed_7 (by decide) ?_
  have hc8 := c_X9_mustBeWhat (n := n) (kd := kd) (I := I) (J := J) (P := P) o (y) (nI 2)
  rw [hy] at hc8
  exact r_virtX hc8 lk_X9_162 mc_X9_mustBeWhat dX9_changed_8 x0 (by decide) rfl rfl (Nat.le_of_ble_eq_true rfl) (by decide) (by decide) ⟨rfl, rfl, rfl, rfl, rfl, rfl⟩

set_option maxHeartbeats 4000000 in
set_option maxRecDepth 100000 in
theorem k_changed_no2 (o b s f l : Nat) (h k : Nat) (z u : Int32) {t : Nat} {T : Nat → Nat} {fp : Int32} {rr : Nat → Int32} {H M : Nat} {un : Bool} {cs : Nat → List Nat} {tx : Nat → List Int32} {e : Lf} {im : Option Lf} {wk : Option (List Nat)} {n : Nat} {kd : mK} {I : mI} {J : mJ} {P : mP} (hC : CR o b s f l n kd I J P t T fp rr H M un cs tx e im wk) (hz : okZ t T H M cs e) (hh : h < H) (hk2 : k < 2) (hy : (!decide (u < 0) && decide (u < nI 2)) = false) : Ct yX9_changed cX9_changed 6 (some .int) 9 1 6 [.ref o, .int (nI h), .int (nI k), .int z, .int u] n kd I J P (fun z n' kd' I' J' P' => z = .inr "java/util/NoSuchElementException" ∧ n' = n ∧ kd' = kd ∧ I' = I ∧ J' = J ∧ P' = P) := by
  obtain ⟨hX, hsc, hT, hSt, hLf, hIm, hWk, hQc, hPc⟩ := hC
  obtain ⟨okt, oks, okl⟩ := hz
  have hS := hX.S
  have hL := hX.L
  have hat := hX.at
  have hH8 : H ≤ 8 := oks.2.1
  have hM20 : 2 ≤ M ∧ M ≤ 20 := oks.1
  have hH : I b 0 = nI H := hSt.1.1
  have hMo : I b 1 = nI M := hSt.2.1
  obtain ⟨⟨x0, x1, x2⟩, -, ⟨-, -, hLk⟩, ⟨hQ, hA, hG, hW, hRd, hD, hPg⟩, ⟨p0, p3, p8, p10, p12, p13, p14, p15, p16, p17⟩, ⟨p4, p5, p6, p7⟩, -, -, -⟩ := id hX
  refine ct_of 1 (by decide +kernel) (Nat.le_of_ble_eq_true rfl) rfl ?_
  refine r_aload_n dX9_changed_0 rfl ?_
  refine r_iload_n dX9_changed_1 rfl ?_
  refine r_virtV (m0_House o b (nI h) x0 p4 hS.1 (by rw [hH]; exact (isH_of hh (by omega)))) lk_X9_142 mc_X9_mustBeHouse dX9_changed_2 x0 (by decide) rfl rfl (Nat.le_of_ble_eq_true rfl) ?_
  refine r_aload_n dX9_changed_5 rfl ?_
  refine r_iload_n dX9_changed_6 rfl ?_
  refine r_iconst (v := nI 2) dX9_changed_7 (by decide) ?_
  refine r_virtV (m0_What o (nI k) (nI 2) (isH_of hk2 (by omega))) lk_X9_162 mc_X9_mustBeWhat dX9_changed_8 x0 (by decide) rfl rfl (Nat.le_of_ble_eq_true rfl) ?_
  refine r_aload_n dX9_changed_11 rfl ?_
  refine r_iload dX9_changed_12 rfl ?_
  refine r_iconst (v := nI 2) dX9_changed_14 (by decide) ?_
  have hc15 := c_X9_mustBeWhat (n := n) (kd := kd) (I := I) (J := J) (P := P) o (u) (nI 2)
  rw [hy] at hc15
  exact r_virtX hc15 lk_X9_162 mc_X9_mustBeWhat dX9_changed_15 x0 (by decide) rfl rfl (Nat.le_of_ble_eq_true rfl) (by decide) (by decide) ⟨rfl, rfl, rfl, rfl, rfl, rfl⟩

set_option maxHeartbeats 4000000 in
set_option maxRecDepth 100000 in
theorem k_changed_no3 (o b s f l : Nat) (h k w : Nat) (y : Int32) {t : Nat} {T : Nat → Nat} {fp : Int32} {rr : Nat → Int32} {H M : Nat} {un : Bool} {cs : Nat → List Nat} {tx : Nat → List Int32} {e : Lf} {im : Option Lf} {wk : Option (List Nat)} {n : Nat} {kd : mK} {I : mI} {J : mJ} {P : mP} (hC : CR o b s f l n kd I J P t T fp rr H M un cs tx e im wk) (hz : okZ t T H M cs e) (hh : h < H) (hk2 : k < 2) (hw2 : w < 2) (hy : y < 0 ∨ nI 99 < y) : Ct yX9_changed cX9_changed 6 (some .int) 9 1 6 [.ref o, .int (nI h), .int (nI k), .int y, .int (nI w)] n kd I J P (fun z n' kd' I' J' P' => z = .inr "java/lang/IllegalArgumentException" ∧ n' = n ∧ kd' = kd ∧ I' = I ∧ J' = J ∧ P' = P) := by
  obtain ⟨hX, hsc, hT, hSt, hLf, hIm, hWk, hQc, hPc⟩ := hC
  obtain ⟨okt, oks, okl⟩ := hz
  have hS := hX.S
  have hL := hX.L
  have hat := hX.at
  have hH8 : H ≤ 8 := oks.2.1
  have hM20 : 2 ≤ M ∧ M ≤ 20 := oks.1
  have hH : I b 0 = nI H := hSt.1.1
  have hMo : I b 1 = nI M := hSt.2.1
  obtain ⟨⟨x0, x1, x2⟩, -, ⟨-, -, hLk⟩, ⟨hQ, hA, hG, hW, hRd, hD, hPg⟩, ⟨p0, p3, p8, p10, p12, p13, p14, p15, p16, p17⟩, ⟨p4, p5, p6, p7⟩, -, -, -⟩ := id hX
  refine ct_of 1 (by decide +kernel) (Nat.le_of_ble_eq_true rfl) rfl ?_
  by_cases c : y < 0
  · skip
    refine r_aload_n dX9_changed_0 rfl ?_
    refine r_iload_n dX9_changed_1 rfl ?_
    refine r_virtV (m0_House o b (nI h) x0 p4 hS.1 (by rw [hH]; exact (isH_of hh (by omega)))) lk_X9_142 mc_X9_mustBeHouse dX9_changed_2 x0 (by decide) rfl rfl (Nat.le_of_ble_eq_true rfl) ?_
    refine r_aload_n dX9_changed_5 rfl ?_
    refine r_iload_n dX9_changed_6 rfl ?_
    refine r_iconst (v := nI 2) dX9_changed_7 (by decide) ?_
    refine r_virtV (m0_What o (nI k) (nI 2) (isH_of hk2 (by omega))) lk_X9_162 mc_X9_mustBeWhat dX9_changed_8 x0 (by decide) rfl rfl (Nat.le_of_ble_eq_true rfl) ?_
    refine r_aload_n dX9_changed_11 rfl ?_
    refine r_iload dX9_changed_12 rfl ?_
    refine r_iconst (v := nI 2) dX9_changed_14 (by decide) ?_
    refine r_virtV (m0_What o (nI w) (nI 2) (isH_of hw2 (by omega))) lk_X9_162 mc_X9_mustBeWhat dX9_changed_15 x0 (by decide) rfl rfl (Nat.le_of_ble_eq_true rfl) ?_
    refine r_iload_n dX9_changed_18 rfl ?_
    refine r_if_lt (tgt := 28) dX9_changed_19 (by decide) (fun _ => ?_) (fun hz => absurd (show _ from c) hz)
    refine r_throw (cls := "java/lang/IllegalArgumentException") (names := ["java/lang/RuntimeException", "java/lang/Exception"]) dX9_changed_28 dX9_changed_31 dX9_changed_32 dX9_changed_35 (by decide +kernel) (by decide +kernel) cl_X9_110 xi_IllegalArgumentException xa_iae xb_iae (by decide) (Nat.le_of_ble_eq_true rfl) (by omega) (by omega) ?_
    exact ⟨rfl, rfl, rfl, rfl, rfl, rfl⟩
  · skip
    refine r_aload_n dX9_changed_0 rfl ?_
    refine r_iload_n dX9_changed_1 rfl ?_
    refine r_virtV (m0_House o b (nI h) x0 p4 hS.1 (by rw [hH]; exact (isH_of hh (by omega)))) lk_X9_142 mc_X9_mustBeHouse dX9_changed_2 x0 (by decide) rfl rfl (Nat.le_of_ble_eq_true rfl) ?_
    refine r_aload_n dX9_changed_5 rfl ?_
    refine r_iload_n dX9_changed_6 rfl ?_
    refine r_iconst (v := nI 2) dX9_changed_7 (by decide) ?_
    refine r_virtV (m0_What o (nI k) (nI 2) (isH_of hk2 (by omega))) lk_X9_162 mc_X9_mustBeWhat dX9_changed_8 x0 (by decide) rfl rfl (Nat.le_of_ble_eq_true rfl) ?_
    refine r_aload_n dX9_changed_11 rfl ?_
    refine r_iload dX9_changed_12 rfl ?_
    refine r_iconst (v := nI 2) dX9_changed_14 (by decide) ?_
    refine r_virtV (m0_What o (nI w) (nI 2) (isH_of hw2 (by omega))) lk_X9_162 mc_X9_mustBeWhat dX9_changed_15 x0 (by decide) rfl rfl (Nat.le_of_ble_eq_true rfl) ?_
    refine r_iload_n dX9_changed_18 rfl ?_
    refine r_if_lt (tgt := 28) dX9_changed_19 (by decide) (fun hz => absurd hz (show ¬ _ from c)) (fun _ => ?_)
    refine r_iload_n dX9_changed_22 rfl ?_
    refine r_bipush (v := nI 99) dX9_changed_23 (by decide) ?_
    refine r_icmp_le (tgt := 36) dX9_changed_25 (by decide) (fun hz => absurd hz (show ¬ _ from Int32.not_le.mpr (hy.resolve_left c))) (fun _ => ?_)
    refine r_throw (cls := "java/lang/IllegalArgumentException") (names := ["java/lang/RuntimeException", "java/lang/Exception"]) dX9_changed_28 dX9_changed_31 dX9_changed_32 dX9_changed_35 (by decide +kernel) (by decide +kernel) cl_X9_110 xi_IllegalArgumentException xa_iae xb_iae (by decide) (Nat.le_of_ble_eq_true rfl) (by omega) (by omega) ?_
    exact ⟨rfl, rfl, rfl, rfl, rfl, rfl⟩

theorem nm_le {fs : List (Nat → Nat)} {H M i h : Nat} (hr : fRng H M fs) (hi : i < fs.length) (hh : h < H) (hM : M ≤ 20) : nmF fs i h ≤ 20 := by
  unfold nmF
  have hm : fs.reverse.getD i (fun _ => 0) ∈ fs := by
    rw [List.getD_eq_getElem?_getD, List.getElem?_eq_getElem (by rw [List.length_reverse]; exact hi)]
    exact List.mem_reverse.mp (List.getElem_mem _)
  have := (hr _ hm h hh).2
  omega
set_option maxHeartbeats 4000000 in
set_option maxRecDepth 100000 in
theorem k_changed (o b s f l : Nat) (h k v w : Nat) {t : Nat} {T : Nat → Nat} {fp : Int32} {rr : Nat → Int32} {H M : Nat} {un : Bool} {cs : Nat → List Nat} {tx : Nat → List Int32} {e : Lf} {im : Option Lf} {wk : Option (List Nat)} {n : Nat} {kd : mK} {I : mI} {J : mJ} {P : mP} (hC : CR o b s f l n kd I J P t T fp rr H M un cs tx e im wk) (hz : okZ t T H M cs e) (hh : h < H) (hk2 : k < 2) (hw2 : w < 2) (hv : v ≤ 99) : Ct yX9_changed cX9_changed 6 (some .int) 9 1 6 [.ref o, .int (nI h), .int (nI k), .int (nI v), .int (nI w)] n kd I J P (pK o n kd I J P (.inl (some (.int (chV H M un cs e (putE e k h v) w)))) (CX o t T fp rr H M un cs tx e im wk)) := by
  have hC0 := hC
  have hz0 := hz
  obtain ⟨hX, hsc, hT, hSt, hLf, hIm, hWk, hQc, hPc⟩ := hC
  obtain ⟨okt, oks, okl⟩ := hz
  have hS := hX.S
  have hL := hX.L
  have hat := hX.at
  have hH8 : H ≤ 8 := oks.2.1
  have hM20 : 2 ≤ M ∧ M ≤ 20 := oks.1
  have hH : I b 0 = nI H := hSt.1.1
  have hMo : I b 1 = nI M := hSt.2.1
  obtain ⟨⟨x0, x1, x2⟩, -, ⟨-, -, hLk⟩, ⟨hQ, hA, hG, hW, hRd, hD, hPg⟩, ⟨p0, p3, p8, p10, p12, p13, p14, p15, p16, p17⟩, ⟨p4, p5, p6, p7⟩, -, -, -⟩ := id hX
  refine ct_of 1 (by decide +kernel) (Nat.le_of_ble_eq_true rfl) rfl ?_
  rcases gd2 (gdN H M un cs e) with hg | hg
  · rw [show chV H M un cs e (putE e k h v) w = -2 from if_neg (by rw [hg]; decide)]
    refine r_aload_n dX9_changed_0 rfl ?_
    refine r_iload_n dX9_changed_1 rfl ?_
    refine r_virtV (m0_House o b (nI h) x0 p4 hS.1 (by rw [hH]; exact (isH_of hh (by omega)))) lk_X9_142 mc_X9_mustBeHouse dX9_changed_2 x0 (by decide) rfl rfl (Nat.le_of_ble_eq_true rfl) ?_
    refine r_aload_n dX9_changed_5 rfl ?_
    refine r_iload_n dX9_changed_6 rfl ?_
    refine r_iconst (v := nI 2) dX9_changed_7 (by decide) ?_
    refine r_virtV (m0_What o (nI k) (nI 2) (isH_of hk2 (by omega))) lk_X9_162 mc_X9_mustBeWhat dX9_changed_8 x0 (by decide) rfl rfl (Nat.le_of_ble_eq_true rfl) ?_
    refine r_aload_n dX9_changed_11 rfl ?_
    refine r_iload dX9_changed_12 rfl ?_
    refine r_iconst (v := nI 2) dX9_changed_14 (by decide) ?_
    refine r_virtV (m0_What o (nI w) (nI 2) (isH_of hw2 (by omega))) lk_X9_162 mc_X9_mustBeWhat dX9_changed_15 x0 (by decide) rfl rfl (Nat.le_of_ble_eq_true rfl) ?_
    refine r_iload_n dX9_changed_18 rfl ?_
    refine r_if_lt (tgt := 28) dX9_changed_19 (by decide) (fun hz => absurd hz (show ¬ _ from (z_nlt (by omega)))) (fun _ => ?_)
    refine r_iload_n dX9_changed_22 rfl ?_
    refine r_bipush (v := nI 99) dX9_changed_23 (by decide) ?_
    refine r_icmp_le (tgt := 36) dX9_changed_25 (by decide) (fun _ => ?_) (fun hz => absurd (show _ from ((nI_leI (by omega) (by decide)).mpr hv)) hz)
    refine r_aload_n dX9_changed_36 rfl ?_
    refine r_virt (kc2 := 0) (ks2 := 0) (k_search o b s f l hC0 hz0) lk_X9_183 mc_X9_search dX9_changed_37 x0 (by decide) rfl rfl (Nat.le_of_ble_eq_true rfl) (by decide) (by decide) (fun _ _ _ _ _ _ h => nomatch h.1) ?_
    rintro v1 n1 kd1 I1 J1 P1 ⟨h00, rfl, rfl, hfr, h56, hC1, h11⟩
    cases h00
    simp only [Option.toList, List.nil_append]
    obtain ⟨f9, f10, fS, fJ⟩ := hC1.found h11 hz0
    obtain ⟨⟨y0, y1, y2⟩, -, -, ⟨hQ1, hA1, hG1, hW1, -, -, -⟩, ⟨-, -, -, r10, r12, r13, r14, -, -, -⟩, ⟨r4, r5, r6, r7⟩, -, -, -⟩ := id hC1.1
    have hH1 := hC1.H0
    have hMo1 := hC1.M0
    have hS1 := hC1.1.S
    have hL1 := hC1.1.L
    refine r_aload_n dX9_changed_40 rfl ?_
    refine r_getR dX9_changed_41 fl_X9_54 rfl (by assumption) (by assumption) ?_
    refine r_getI dX9_changed_44 fl_X9_186 rfl hQ1.1 ?_
    rw [f10, if_neg (show ¬ _ from by rw [hg]; decide)]
    refine r_bipush (v := (-2)) dX9_changed_47 (by decide) ?_
    refine r_icmp_ne (tgt := 55) dX9_changed_49 (by decide) (fun hz => absurd (show _ from rfl) hz) (fun _ => ?_)
    refine r_bipush (v := (-2)) dX9_changed_52 (by decide) ?_
    refine r_iret rfl dX9_changed_54 ?_
    exact ⟨rfl, ⟨Nat.le_refl _, Nat.le_succ _⟩, fun q => by rw [h56]; exact q, fun a a1 a2 => ⟨rfl, (hfr a (by omega)).1, (hfr a (by omega)).2.1, (hfr a (by omega)).2.2⟩, b, s, f, l, hC1⟩
  · have hl : (fsN H M un cs e).length ≤ 1000 := gd_len hg
    rcases gd2 (gdN H M un cs (putE e k h v)) with hg2 | hg2
    · rw [show chV H M un cs e (putE e k h v) w = -2 from by unfold chV; rw [if_pos hg, if_neg (by rw [hg2]; decide)]]
      refine r_aload_n dX9_changed_0 rfl ?_
      refine r_iload_n dX9_changed_1 rfl ?_
      refine r_virtV (m0_House o b (nI h) x0 p4 hS.1 (by rw [hH]; exact (isH_of hh (by omega)))) lk_X9_142 mc_X9_mustBeHouse dX9_changed_2 x0 (by decide) rfl rfl (Nat.le_of_ble_eq_true rfl) ?_
      refine r_aload_n dX9_changed_5 rfl ?_
      refine r_iload_n dX9_changed_6 rfl ?_
      refine r_iconst (v := nI 2) dX9_changed_7 (by decide) ?_
      refine r_virtV (m0_What o (nI k) (nI 2) (isH_of hk2 (by omega))) lk_X9_162 mc_X9_mustBeWhat dX9_changed_8 x0 (by decide) rfl rfl (Nat.le_of_ble_eq_true rfl) ?_
      refine r_aload_n dX9_changed_11 rfl ?_
      refine r_iload dX9_changed_12 rfl ?_
      refine r_iconst (v := nI 2) dX9_changed_14 (by decide) ?_
      refine r_virtV (m0_What o (nI w) (nI 2) (isH_of hw2 (by omega))) lk_X9_162 mc_X9_mustBeWhat dX9_changed_15 x0 (by decide) rfl rfl (Nat.le_of_ble_eq_true rfl) ?_
      refine r_iload_n dX9_changed_18 rfl ?_
      refine r_if_lt (tgt := 28) dX9_changed_19 (by decide) (fun hz => absurd hz (show ¬ _ from (z_nlt (by omega)))) (fun _ => ?_)
      refine r_iload_n dX9_changed_22 rfl ?_
      refine r_bipush (v := nI 99) dX9_changed_23 (by decide) ?_
      refine r_icmp_le (tgt := 36) dX9_changed_25 (by decide) (fun _ => ?_) (fun hz => absurd (show _ from ((nI_leI (by omega) (by decide)).mpr hv)) hz)
      refine r_aload_n dX9_changed_36 rfl ?_
      refine r_virt (kc2 := 0) (ks2 := 0) (k_search o b s f l hC0 hz0) lk_X9_183 mc_X9_search dX9_changed_37 x0 (by decide) rfl rfl (Nat.le_of_ble_eq_true rfl) (by decide) (by decide) (fun _ _ _ _ _ _ h => nomatch h.1) ?_
      rintro v1 n1 kd1 I1 J1 P1 ⟨h00, rfl, rfl, hfr, h56, hC1, h11⟩
      cases h00
      simp only [Option.toList, List.nil_append]
      obtain ⟨f9, f10, fS, fJ⟩ := hC1.found h11 hz0
      obtain ⟨⟨y0, y1, y2⟩, -, -, ⟨hQ1, hA1, hG1, hW1, -, -, -⟩, ⟨-, -, -, r10, r12, r13, r14, -, -, -⟩, ⟨r4, r5, r6, r7⟩, -, -, -⟩ := id hC1.1
      have hH1 := hC1.H0
      have hMo1 := hC1.M0
      have hS1 := hC1.1.S
      have hL1 := hC1.1.L
      refine r_aload_n dX9_changed_40 rfl ?_
      refine r_getR dX9_changed_41 fl_X9_54 rfl (by assumption) (by assumption) ?_
      refine r_getI dX9_changed_44 fl_X9_186 rfl hQ1.1 ?_
      rw [f10, if_pos hg]
      refine r_bipush (v := (-2)) dX9_changed_47 (by decide) ?_
      refine r_icmp_ne (tgt := 55) dX9_changed_49 (by decide) (fun _ => ?_) (fun hz => absurd hz (show ¬ _ from (nI_m2 (by omega))))
      refine r_aload_n dX9_changed_55 rfl ?_
      refine r_getR dX9_changed_56 fl_X9_41 rfl y0 r7 ?_
      refine r_aload_n dX9_changed_59 rfl ?_
      refine r_getR dX9_changed_60 fl_X9_37 rfl y0 r6 ?_
      refine r_virt (kc2 := 0) (ks2 := 0) (c_X2_copy l f hC1.1.L2 hL1 (by omega)) lk_X9_264 mc_X2_copy dX9_changed_63 hC1.1.L2.1 (by decide) rfl rfl (Nat.le_of_ble_eq_true rfl) (by decide) (by decide) (fun _ _ _ _ _ _ h => nomatch h.1) ?_
      rintro v2 n2 kd2 I2 J2 P2 ⟨h00, rfl, rfl, rfl, rfl, hfr2, g0, g1, g3, g4⟩
      cases h00
      simp only [Option.toList, List.nil_append]
      have hC2 := hC1.tl hfr2
      have hcl2 := cL_copy hH8 okl g0 g1 g3 g4 hC1.2.2.2.2.1
      refine r_aload_n dX9_changed_66 rfl ?_
      refine r_getR dX9_changed_67 fl_X9_41 rfl y0 r7 ?_
      refine r_iload_n dX9_changed_70 rfl ?_
      refine r_iload_n dX9_changed_71 rfl ?_
      refine r_iload_n dX9_changed_72 rfl ?_
      have hC3 := hC2.tl (I' := putL I2 l (nI k) h (nI v)) (fun a a1 => putL_fr a1)
      have hcl3 := cL_put (show k < 3 by omega) hh hH8 (fun q => absurd q (by omega)) hcl2 (v := v)
      have okl3 := okL_put (k := k) (h := h) hv okl
      have hSt3 := hC3.2.2.2.1
      refine r_virtV (c_X2_put l h (nI k) (nI v) hC1.1.L2 (by omega)) lk_X9_274 mc_X2_put dX9_changed_73 hC1.1.L2.1 (by decide) rfl rfl (Nat.le_of_ble_eq_true rfl) ?_
      generalize hI3 : putL I2 l (nI k) h (nI v) = I3 at hC3 hcl3 hSt3 ⊢
      have hB3 : Bs o I1 I3 J2 J2 P2 P2 := Bs.tl (l := l) (by omega) (fun a a1 => by rw [← hI3]; exact putL_fr a1) (Bs.tl (l := l) (by omega) hfr2 Bs.rf)
      have h113 : I3 o 11 = nI 1 := by rw [← hI3, putL_fr (by omega), hfr2 o (by omega)]; exact h11
      refine r_aload_n dX9_changed_76 rfl ?_
      refine r_getR dX9_changed_77 fl_X9_64 rfl y0 r12 ?_
      refine r_getR dX9_changed_80 fl_X9_198 rfl hA1.1 hA1.2.2.2.2.1 ?_
      refine r_astore dX9_changed_83 (by decide) ?_
      refine r_aload dX9_changed_85 rfl ?_
      refine r_aload_n dX9_changed_87 rfl ?_
      refine r_getR dX9_changed_88 fl_X9_27 rfl y0 r4 ?_
      refine r_aload_n dX9_changed_91 rfl ?_
      refine r_getR dX9_changed_92 fl_X9_41 rfl y0 r7 ?_
      refine r_aload_n dX9_changed_95 rfl ?_
      refine r_getR dX9_changed_96 fl_X9_27 rfl y0 r4 ?_
      refine r_aload_n dX9_changed_99 rfl ?_
      refine r_getR dX9_changed_100 fl_X9_41 rfl y0 r7 ?_
      refine r_virtE (c_X7_speaking b l hS1 hC1.1.L2) lk_X9_300 mc_X7_speaking dX9_changed_103 hS1.1 (by decide) rfl rfl (Nat.le_of_ble_eq_true rfl) ?_
      rw [sp_c hSt3 hcl3]
      refine r_iconst (v := nI 1) dX9_changed_106 (by decide) ?_
      refine r_virtV (c_setUpN (o + 48) b l H M (putE e k h v).2.2.2.2.length (nI (spB H cs (putE e k h v))) (nI 1) (lkO cs H) cs un (LtO (putE e k h v).2.2.2.2) (I3 (l + 1)) (I3 (l + 2)) hS1 hC1.1.L2 hA1.2.1 (by omega) (by omega) (by omega) hH8 (z_cl hSt3 hcl3 oks okl3)) lk_X9_304 mc_X6_setUp dX9_changed_107 hA1.2.1.1 (by decide) rfl rfl (Nat.le_of_ble_eq_true rfl) ?_
      refine r_aload dX9_changed_110 rfl ?_
      refine r_virt (kc2 := 0) (ks2 := 0) (c_seekAllN (o + 48) b l H M (putE e k h v).2.2.2.2.length (nI (spB H cs (putE e k h v))) (nI 1) (lkO cs H) cs un (LtO (putE e k h v).2.2.2.2) (I3 (l + 1)) (I3 (l + 2)) (zN H M un cs (putE e k h v)) hS1 hC1.1.L2 hA1.2.1 (by omega) (by omega) (by omega) hH8 (z_cl hSt3 hcl3 oks okl3) hM20.2 (fun k hk hb => by rw [← sp_c hSt3 hcl3, b_and, Bool.and_eq_true] at hb; exact hb.1) (zR_c hH8 hM20.2 hcl3)) lk_X9_308 mc_X6_seekAll dX9_changed_112 hA1.2.1.1 (by decide) rfl rfl (Nat.le_of_ble_eq_true rfl) (by decide) (by decide) (fun _ _ _ _ _ _ h => nomatch h.1) ?_
      rintro v4 n4 kd4 I4 J4 P4 ⟨h00, rfl, rfl, hqf, hsp4, hf9, hf10, hf5, hJ4⟩
      cases h00
      simp only [Option.toList, List.nil_append, List.cons_append]
      have hC4 := hC3.qf (Or.inl rfl) hqf
      have hB4 := hB3.qf (x := b) (by omega) hqf
      have hfd4 := hC4.found (by rw [hqf.1 o (by omega) (by omega)]; exact h113) hz0
      obtain ⟨⟨w0, -, -⟩, -, -, ⟨hQ4, hA4, -, -, -, -, -⟩, ⟨-, -, -, w10, w12, -, -, -, -, -⟩, ⟨w4, -, -, -⟩, -, -, -⟩ := id hC4.1
      rw [skA_f hg2]
      refine r_bipush (v := (-2)) dX9_changed_115 (by decide) ?_
      refine r_icmp_ne (tgt := 123) dX9_changed_117 (by decide) (fun hz => absurd (show _ from rfl) hz) (fun _ => ?_)
      refine r_bipush (v := (-2)) dX9_changed_120 (by decide) ?_
      refine r_iret rfl dX9_changed_122 ?_
      exact ⟨rfl, ⟨Nat.le_refl _, Nat.le_succ _⟩, fun q => by rw [hB4.2, h56]; exact q, fun a a1 a2 => ⟨rfl, ((hB4.1 a a1 a2).1).trans (hfr a (by omega)).1, ((hB4.1 a a1 a2).2.1).trans (hfr a (by omega)).2.1, ((hB4.1 a a1 a2).2.2).trans (hfr a (by omega)).2.2⟩, b, s, f, l, hC4⟩
    · have hl2 : (fsN H M un cs (putE e k h v)).length ≤ 1000 := gd_len hg2
      by_cases c8 : w = 0
      · skip
        rw [show chV H M un cs e (putE e k h v) w = nI (chC (mayN (fsN H M un cs e)) (mayN (fsN H M un cs (putE e k h v))) H) from by unfold chV; rw [if_pos hg, if_pos hg2, if_pos c8]]
        refine r_aload_n dX9_changed_0 rfl ?_
        refine r_iload_n dX9_changed_1 rfl ?_
        refine r_virtV (m0_House o b (nI h) x0 p4 hS.1 (by rw [hH]; exact (isH_of hh (by omega)))) lk_X9_142 mc_X9_mustBeHouse dX9_changed_2 x0 (by decide) rfl rfl (Nat.le_of_ble_eq_true rfl) ?_
        refine r_aload_n dX9_changed_5 rfl ?_
        refine r_iload_n dX9_changed_6 rfl ?_
        refine r_iconst (v := nI 2) dX9_changed_7 (by decide) ?_
        refine r_virtV (m0_What o (nI k) (nI 2) (isH_of hk2 (by omega))) lk_X9_162 mc_X9_mustBeWhat dX9_changed_8 x0 (by decide) rfl rfl (Nat.le_of_ble_eq_true rfl) ?_
        refine r_aload_n dX9_changed_11 rfl ?_
        refine r_iload dX9_changed_12 rfl ?_
        refine r_iconst (v := nI 2) dX9_changed_14 (by decide) ?_
        refine r_virtV (m0_What o (nI w) (nI 2) (isH_of hw2 (by omega))) lk_X9_162 mc_X9_mustBeWhat dX9_changed_15 x0 (by decide) rfl rfl (Nat.le_of_ble_eq_true rfl) ?_
        refine r_iload_n dX9_changed_18 rfl ?_
        refine r_if_lt (tgt := 28) dX9_changed_19 (by decide) (fun hz => absurd hz (show ¬ _ from (z_nlt (by omega)))) (fun _ => ?_)
        refine r_iload_n dX9_changed_22 rfl ?_
        refine r_bipush (v := nI 99) dX9_changed_23 (by decide) ?_
        refine r_icmp_le (tgt := 36) dX9_changed_25 (by decide) (fun _ => ?_) (fun hz => absurd (show _ from ((nI_leI (by omega) (by decide)).mpr hv)) hz)
        refine r_aload_n dX9_changed_36 rfl ?_
        refine r_virt (kc2 := 0) (ks2 := 0) (k_search o b s f l hC0 hz0) lk_X9_183 mc_X9_search dX9_changed_37 x0 (by decide) rfl rfl (Nat.le_of_ble_eq_true rfl) (by decide) (by decide) (fun _ _ _ _ _ _ h => nomatch h.1) ?_
        rintro v1 n1 kd1 I1 J1 P1 ⟨h00, rfl, rfl, hfr, h56, hC1, h11⟩
        cases h00
        simp only [Option.toList, List.nil_append]
        obtain ⟨f9, f10, fS, fJ⟩ := hC1.found h11 hz0
        obtain ⟨⟨y0, y1, y2⟩, -, -, ⟨hQ1, hA1, hG1, hW1, -, -, -⟩, ⟨-, -, -, r10, r12, r13, r14, -, -, -⟩, ⟨r4, r5, r6, r7⟩, -, -, -⟩ := id hC1.1
        have hH1 := hC1.H0
        have hMo1 := hC1.M0
        have hS1 := hC1.1.S
        have hL1 := hC1.1.L
        refine r_aload_n dX9_changed_40 rfl ?_
        refine r_getR dX9_changed_41 fl_X9_54 rfl (by assumption) (by assumption) ?_
        refine r_getI dX9_changed_44 fl_X9_186 rfl hQ1.1 ?_
        rw [f10, if_pos hg]
        refine r_bipush (v := (-2)) dX9_changed_47 (by decide) ?_
        refine r_icmp_ne (tgt := 55) dX9_changed_49 (by decide) (fun _ => ?_) (fun hz => absurd hz (show ¬ _ from (nI_m2 (by omega))))
        refine r_aload_n dX9_changed_55 rfl ?_
        refine r_getR dX9_changed_56 fl_X9_41 rfl y0 r7 ?_
        refine r_aload_n dX9_changed_59 rfl ?_
        refine r_getR dX9_changed_60 fl_X9_37 rfl y0 r6 ?_
        refine r_virt (kc2 := 0) (ks2 := 0) (c_X2_copy l f hC1.1.L2 hL1 (by omega)) lk_X9_264 mc_X2_copy dX9_changed_63 hC1.1.L2.1 (by decide) rfl rfl (Nat.le_of_ble_eq_true rfl) (by decide) (by decide) (fun _ _ _ _ _ _ h => nomatch h.1) ?_
        rintro v2 n2 kd2 I2 J2 P2 ⟨h00, rfl, rfl, rfl, rfl, hfr2, g0, g1, g3, g4⟩
        cases h00
        simp only [Option.toList, List.nil_append]
        have hC2 := hC1.tl hfr2
        have hcl2 := cL_copy hH8 okl g0 g1 g3 g4 hC1.2.2.2.2.1
        refine r_aload_n dX9_changed_66 rfl ?_
        refine r_getR dX9_changed_67 fl_X9_41 rfl y0 r7 ?_
        refine r_iload_n dX9_changed_70 rfl ?_
        refine r_iload_n dX9_changed_71 rfl ?_
        refine r_iload_n dX9_changed_72 rfl ?_
        have hC3 := hC2.tl (I' := putL I2 l (nI k) h (nI v)) (fun a a1 => putL_fr a1)
        have hcl3 := cL_put (show k < 3 by omega) hh hH8 (fun q => absurd q (by omega)) hcl2 (v := v)
        have okl3 := okL_put (k := k) (h := h) hv okl
        have hSt3 := hC3.2.2.2.1
        refine r_virtV (c_X2_put l h (nI k) (nI v) hC1.1.L2 (by omega)) lk_X9_274 mc_X2_put dX9_changed_73 hC1.1.L2.1 (by decide) rfl rfl (Nat.le_of_ble_eq_true rfl) ?_
        generalize hI3 : putL I2 l (nI k) h (nI v) = I3 at hC3 hcl3 hSt3 ⊢
        have hB3 : Bs o I1 I3 J2 J2 P2 P2 := Bs.tl (l := l) (by omega) (fun a a1 => by rw [← hI3]; exact putL_fr a1) (Bs.tl (l := l) (by omega) hfr2 Bs.rf)
        have h113 : I3 o 11 = nI 1 := by rw [← hI3, putL_fr (by omega), hfr2 o (by omega)]; exact h11
        refine r_aload_n dX9_changed_76 rfl ?_
        refine r_getR dX9_changed_77 fl_X9_64 rfl y0 r12 ?_
        refine r_getR dX9_changed_80 fl_X9_198 rfl hA1.1 hA1.2.2.2.2.1 ?_
        refine r_astore dX9_changed_83 (by decide) ?_
        refine r_aload dX9_changed_85 rfl ?_
        refine r_aload_n dX9_changed_87 rfl ?_
        refine r_getR dX9_changed_88 fl_X9_27 rfl y0 r4 ?_
        refine r_aload_n dX9_changed_91 rfl ?_
        refine r_getR dX9_changed_92 fl_X9_41 rfl y0 r7 ?_
        refine r_aload_n dX9_changed_95 rfl ?_
        refine r_getR dX9_changed_96 fl_X9_27 rfl y0 r4 ?_
        refine r_aload_n dX9_changed_99 rfl ?_
        refine r_getR dX9_changed_100 fl_X9_41 rfl y0 r7 ?_
        refine r_virtE (c_X7_speaking b l hS1 hC1.1.L2) lk_X9_300 mc_X7_speaking dX9_changed_103 hS1.1 (by decide) rfl rfl (Nat.le_of_ble_eq_true rfl) ?_
        rw [sp_c hSt3 hcl3]
        refine r_iconst (v := nI 1) dX9_changed_106 (by decide) ?_
        refine r_virtV (c_setUpN (o + 48) b l H M (putE e k h v).2.2.2.2.length (nI (spB H cs (putE e k h v))) (nI 1) (lkO cs H) cs un (LtO (putE e k h v).2.2.2.2) (I3 (l + 1)) (I3 (l + 2)) hS1 hC1.1.L2 hA1.2.1 (by omega) (by omega) (by omega) hH8 (z_cl hSt3 hcl3 oks okl3)) lk_X9_304 mc_X6_setUp dX9_changed_107 hA1.2.1.1 (by decide) rfl rfl (Nat.le_of_ble_eq_true rfl) ?_
        refine r_aload dX9_changed_110 rfl ?_
        refine r_virt (kc2 := 0) (ks2 := 0) (c_seekAllN (o + 48) b l H M (putE e k h v).2.2.2.2.length (nI (spB H cs (putE e k h v))) (nI 1) (lkO cs H) cs un (LtO (putE e k h v).2.2.2.2) (I3 (l + 1)) (I3 (l + 2)) (zN H M un cs (putE e k h v)) hS1 hC1.1.L2 hA1.2.1 (by omega) (by omega) (by omega) hH8 (z_cl hSt3 hcl3 oks okl3) hM20.2 (fun k hk hb => by rw [← sp_c hSt3 hcl3, b_and, Bool.and_eq_true] at hb; exact hb.1) (zR_c hH8 hM20.2 hcl3)) lk_X9_308 mc_X6_seekAll dX9_changed_112 hA1.2.1.1 (by decide) rfl rfl (Nat.le_of_ble_eq_true rfl) (by decide) (by decide) (fun _ _ _ _ _ _ h => nomatch h.1) ?_
        rintro v4 n4 kd4 I4 J4 P4 ⟨h00, rfl, rfl, hqf, hsp4, hf9, hf10, hf5, hJ4⟩
        cases h00
        simp only [Option.toList, List.nil_append, List.cons_append]
        have hC4 := hC3.qf (Or.inl rfl) hqf
        have hB4 := hB3.qf (x := b) (by omega) hqf
        have hfd4 := hC4.found (by rw [hqf.1 o (by omega) (by omega)]; exact h113) hz0
        obtain ⟨⟨w0, -, -⟩, -, -, ⟨hQ4, hA4, -, -, -, -, -⟩, ⟨-, -, -, w10, w12, -, -, -, -, -⟩, ⟨w4, -, -, -⟩, -, -, -⟩ := id hC4.1
        rw [skA_t hg2, show (zN H M un cs (putE e k h v)).2.1.length = (fsN H M un cs (putE e k h v)).length from rfl]
        refine r_bipush (v := (-2)) dX9_changed_115 (by decide) ?_
        refine r_icmp_ne (tgt := 123) dX9_changed_117 (by decide) (fun _ => ?_) (fun hz => absurd hz (show ¬ _ from (nI_m2 (by omega))))
        refine r_iload dX9_changed_123 rfl ?_
        refine r_if_ne (tgt := 137) dX9_changed_125 (by decide) (fun hz => absurd (show _ from (by rw [c8]; rfl)) hz) (fun _ => ?_)
        refine r_aload_n dX9_changed_128 rfl ?_
        refine r_aload dX9_changed_129 rfl ?_
        refine r_virtE (c_X9_houses o b (o + 41) (o + 48) H (mayN (fsN H M un cs e)) (mayN (fsN H M un cs (putE e k h v))) w0 w4 w10 hC4.1.S.1 hC4.H0 hH8 hQ4 hA4.2.1 (fun h hh => ⟨by rw [show o + 41 + 5 = o + 46 by omega]; exact hfd4.2.2.1 h hh, Nat.lt_of_lt_of_le (mayN_lt (zR_rng hH8 hM20.2).2 hM20.2 hh) (by decide)⟩) (fun h hh => ⟨by rw [hf5]; exact SR_may hM20.2 hh (if_pos (by omega)) _ (zR_rng hH8 hM20.2).2, Nat.lt_of_lt_of_le (mayN_lt (zR_rng hH8 hM20.2).2 hM20.2 hh) (by decide)⟩)) lk_X9_311 mc_X9_housesChanged dX9_changed_131 w0 (by decide) rfl rfl (Nat.le_of_ble_eq_true rfl) ?_
        refine r_goto (tgt := 143) dX9_changed_134 (by decide) ?_
        refine r_iret rfl dX9_changed_143 ?_
        exact ⟨rfl, ⟨Nat.le_refl _, Nat.le_succ _⟩, fun q => by rw [hB4.2, h56]; exact q, fun a a1 a2 => ⟨rfl, ((hB4.1 a a1 a2).1).trans (hfr a (by omega)).1, ((hB4.1 a a1 a2).2.1).trans (hfr a (by omega)).2.1, ((hB4.1 a a1 a2).2.2).trans (hfr a (by omega)).2.2⟩, b, s, f, l, hC4⟩
      · by_cases c9 : (fsN H M un cs e).length = 0 ∨ (fsN H M un cs (putE e k h v)).length = 0
        · skip
          rw [show chV H M un cs e (putE e k h v) w = -1 from by unfold chV; rw [if_pos hg, if_pos hg2, if_neg c8, if_pos c9]]
          refine r_aload_n dX9_changed_0 rfl ?_
          refine r_iload_n dX9_changed_1 rfl ?_
          refine r_virtV (m0_House o b (nI h) x0 p4 hS.1 (by rw [hH]; exact (isH_of hh (by omega)))) lk_X9_142 mc_X9_mustBeHouse dX9_changed_2 x0 (by decide) rfl rfl (Nat.le_of_ble_eq_true rfl) ?_
          refine r_aload_n dX9_changed_5 rfl ?_
          refine r_iload_n dX9_changed_6 rfl ?_
          refine r_iconst (v := nI 2) dX9_changed_7 (by decide) ?_
          refine r_virtV (m0_What o (nI k) (nI 2) (isH_of hk2 (by omega))) lk_X9_162 mc_X9_mustBeWhat dX9_changed_8 x0 (by decide) rfl rfl (Nat.le_of_ble_eq_true rfl) ?_
          refine r_aload_n dX9_changed_11 rfl ?_
          refine r_iload dX9_changed_12 rfl ?_
          refine r_iconst (v := nI 2) dX9_changed_14 (by decide) ?_
          refine r_virtV (m0_What o (nI w) (nI 2) (isH_of hw2 (by omega))) lk_X9_162 mc_X9_mustBeWhat dX9_changed_15 x0 (by decide) rfl rfl (Nat.le_of_ble_eq_true rfl) ?_
          refine r_iload_n dX9_changed_18 rfl ?_
          refine r_if_lt (tgt := 28) dX9_changed_19 (by decide) (fun hz => absurd hz (show ¬ _ from (z_nlt (by omega)))) (fun _ => ?_)
          refine r_iload_n dX9_changed_22 rfl ?_
          refine r_bipush (v := nI 99) dX9_changed_23 (by decide) ?_
          refine r_icmp_le (tgt := 36) dX9_changed_25 (by decide) (fun _ => ?_) (fun hz => absurd (show _ from ((nI_leI (by omega) (by decide)).mpr hv)) hz)
          refine r_aload_n dX9_changed_36 rfl ?_
          refine r_virt (kc2 := 0) (ks2 := 0) (k_search o b s f l hC0 hz0) lk_X9_183 mc_X9_search dX9_changed_37 x0 (by decide) rfl rfl (Nat.le_of_ble_eq_true rfl) (by decide) (by decide) (fun _ _ _ _ _ _ h => nomatch h.1) ?_
          rintro v1 n1 kd1 I1 J1 P1 ⟨h00, rfl, rfl, hfr, h56, hC1, h11⟩
          cases h00
          simp only [Option.toList, List.nil_append]
          obtain ⟨f9, f10, fS, fJ⟩ := hC1.found h11 hz0
          obtain ⟨⟨y0, y1, y2⟩, -, -, ⟨hQ1, hA1, hG1, hW1, -, -, -⟩, ⟨-, -, -, r10, r12, r13, r14, -, -, -⟩, ⟨r4, r5, r6, r7⟩, -, -, -⟩ := id hC1.1
          have hH1 := hC1.H0
          have hMo1 := hC1.M0
          have hS1 := hC1.1.S
          have hL1 := hC1.1.L
          refine r_aload_n dX9_changed_40 rfl ?_
          refine r_getR dX9_changed_41 fl_X9_54 rfl (by assumption) (by assumption) ?_
          refine r_getI dX9_changed_44 fl_X9_186 rfl hQ1.1 ?_
          rw [f10, if_pos hg]
          refine r_bipush (v := (-2)) dX9_changed_47 (by decide) ?_
          refine r_icmp_ne (tgt := 55) dX9_changed_49 (by decide) (fun _ => ?_) (fun hz => absurd hz (show ¬ _ from (nI_m2 (by omega))))
          refine r_aload_n dX9_changed_55 rfl ?_
          refine r_getR dX9_changed_56 fl_X9_41 rfl y0 r7 ?_
          refine r_aload_n dX9_changed_59 rfl ?_
          refine r_getR dX9_changed_60 fl_X9_37 rfl y0 r6 ?_
          refine r_virt (kc2 := 0) (ks2 := 0) (c_X2_copy l f hC1.1.L2 hL1 (by omega)) lk_X9_264 mc_X2_copy dX9_changed_63 hC1.1.L2.1 (by decide) rfl rfl (Nat.le_of_ble_eq_true rfl) (by decide) (by decide) (fun _ _ _ _ _ _ h => nomatch h.1) ?_
          rintro v2 n2 kd2 I2 J2 P2 ⟨h00, rfl, rfl, rfl, rfl, hfr2, g0, g1, g3, g4⟩
          cases h00
          simp only [Option.toList, List.nil_append]
          have hC2 := hC1.tl hfr2
          have hcl2 := cL_copy hH8 okl g0 g1 g3 g4 hC1.2.2.2.2.1
          refine r_aload_n dX9_changed_66 rfl ?_
          refine r_getR dX9_changed_67 fl_X9_41 rfl y0 r7 ?_
          refine r_iload_n dX9_changed_70 rfl ?_
          refine r_iload_n dX9_changed_71 rfl ?_
          refine r_iload_n dX9_changed_72 rfl ?_
          have hC3 := hC2.tl (I' := putL I2 l (nI k) h (nI v)) (fun a a1 => putL_fr a1)
          have hcl3 := cL_put (show k < 3 by omega) hh hH8 (fun q => absurd q (by omega)) hcl2 (v := v)
          have okl3 := okL_put (k := k) (h := h) hv okl
          have hSt3 := hC3.2.2.2.1
          refine r_virtV (c_X2_put l h (nI k) (nI v) hC1.1.L2 (by omega)) lk_X9_274 mc_X2_put dX9_changed_73 hC1.1.L2.1 (by decide) rfl rfl (Nat.le_of_ble_eq_true rfl) ?_
          generalize hI3 : putL I2 l (nI k) h (nI v) = I3 at hC3 hcl3 hSt3 ⊢
          have hB3 : Bs o I1 I3 J2 J2 P2 P2 := Bs.tl (l := l) (by omega) (fun a a1 => by rw [← hI3]; exact putL_fr a1) (Bs.tl (l := l) (by omega) hfr2 Bs.rf)
          have h113 : I3 o 11 = nI 1 := by rw [← hI3, putL_fr (by omega), hfr2 o (by omega)]; exact h11
          refine r_aload_n dX9_changed_76 rfl ?_
          refine r_getR dX9_changed_77 fl_X9_64 rfl y0 r12 ?_
          refine r_getR dX9_changed_80 fl_X9_198 rfl hA1.1 hA1.2.2.2.2.1 ?_
          refine r_astore dX9_changed_83 (by decide) ?_
          refine r_aload dX9_changed_85 rfl ?_
          refine r_aload_n dX9_changed_87 rfl ?_
          refine r_getR dX9_changed_88 fl_X9_27 rfl y0 r4 ?_
          refine r_aload_n dX9_changed_91 rfl ?_
          refine r_getR dX9_changed_92 fl_X9_41 rfl y0 r7 ?_
          refine r_aload_n dX9_changed_95 rfl ?_
          refine r_getR dX9_changed_96 fl_X9_27 rfl y0 r4 ?_
          refine r_aload_n dX9_changed_99 rfl ?_
          refine r_getR dX9_changed_100 fl_X9_41 rfl y0 r7 ?_
          refine r_virtE (c_X7_speaking b l hS1 hC1.1.L2) lk_X9_300 mc_X7_speaking dX9_changed_103 hS1.1 (by decide) rfl rfl (Nat.le_of_ble_eq_true rfl) ?_
          rw [sp_c hSt3 hcl3]
          refine r_iconst (v := nI 1) dX9_changed_106 (by decide) ?_
          refine r_virtV (c_setUpN (o + 48) b l H M (putE e k h v).2.2.2.2.length (nI (spB H cs (putE e k h v))) (nI 1) (lkO cs H) cs un (LtO (putE e k h v).2.2.2.2) (I3 (l + 1)) (I3 (l + 2)) hS1 hC1.1.L2 hA1.2.1 (by omega) (by omega) (by omega) hH8 (z_cl hSt3 hcl3 oks okl3)) lk_X9_304 mc_X6_setUp dX9_changed_107 hA1.2.1.1 (by decide) rfl rfl (Nat.le_of_ble_eq_true rfl) ?_
          refine r_aload dX9_changed_110 rfl ?_
          refine r_virt (kc2 := 0) (ks2 := 0) (c_seekAllN (o + 48) b l H M (putE e k h v).2.2.2.2.length (nI (spB H cs (putE e k h v))) (nI 1) (lkO cs H) cs un (LtO (putE e k h v).2.2.2.2) (I3 (l + 1)) (I3 (l + 2)) (zN H M un cs (putE e k h v)) hS1 hC1.1.L2 hA1.2.1 (by omega) (by omega) (by omega) hH8 (z_cl hSt3 hcl3 oks okl3) hM20.2 (fun k hk hb => by rw [← sp_c hSt3 hcl3, b_and, Bool.and_eq_true] at hb; exact hb.1) (zR_c hH8 hM20.2 hcl3)) lk_X9_308 mc_X6_seekAll dX9_changed_112 hA1.2.1.1 (by decide) rfl rfl (Nat.le_of_ble_eq_true rfl) (by decide) (by decide) (fun _ _ _ _ _ _ h => nomatch h.1) ?_
          rintro v4 n4 kd4 I4 J4 P4 ⟨h00, rfl, rfl, hqf, hsp4, hf9, hf10, hf5, hJ4⟩
          cases h00
          simp only [Option.toList, List.nil_append, List.cons_append]
          have hC4 := hC3.qf (Or.inl rfl) hqf
          have hB4 := hB3.qf (x := b) (by omega) hqf
          have hfd4 := hC4.found (by rw [hqf.1 o (by omega) (by omega)]; exact h113) hz0
          obtain ⟨⟨w0, -, -⟩, -, -, ⟨hQ4, hA4, -, -, -, -, -⟩, ⟨-, -, -, w10, w12, -, -, -, -, -⟩, ⟨w4, -, -, -⟩, -, -, -⟩ := id hC4.1
          rw [skA_t hg2, show (zN H M un cs (putE e k h v)).2.1.length = (fsN H M un cs (putE e k h v)).length from rfl]
          refine r_bipush (v := (-2)) dX9_changed_115 (by decide) ?_
          refine r_icmp_ne (tgt := 123) dX9_changed_117 (by decide) (fun _ => ?_) (fun hz => absurd hz (show ¬ _ from (nI_m2 (by omega))))
          refine r_iload dX9_changed_123 rfl ?_
          refine r_if_ne (tgt := 137) dX9_changed_125 (by decide) (fun _ => ?_) (fun hz => absurd hz (show ¬ _ from (nI_ne0 (by omega) (by omega))))
          refine r_aload_n dX9_changed_137 rfl ?_
          refine r_aload dX9_changed_138 rfl ?_
          refine r_virtE (c_X9_far_no o b (o + 41) (o + 48) H (fsN H M un cs e).length (fsN H M un cs (putE e k h v)).length w0 w4 w10 hC4.1.S.1 hC4.H0 hH8 hQ4 hA4.2.1 (by rw [hfd4.2.1, if_pos hg]) (hf10.trans (skA_t hg2)) hl hl2 c9) lk_X9_315 mc_X9_farFromNow dX9_changed_140 w0 (by decide) rfl rfl (Nat.le_of_ble_eq_true rfl) ?_
          refine r_iret rfl dX9_changed_143 ?_
          exact ⟨rfl, ⟨Nat.le_refl _, Nat.le_succ _⟩, fun q => by rw [hB4.2, h56]; exact q, fun a a1 a2 => ⟨rfl, ((hB4.1 a a1 a2).1).trans (hfr a (by omega)).1, ((hB4.1 a a1 a2).2.1).trans (hfr a (by omega)).2.1, ((hB4.1 a a1 a2).2.2).trans (hfr a (by omega)).2.2⟩, b, s, f, l, hC4⟩
        · skip
          rw [show chV H M un cs e (putE e k h v) w = nI (chF (nmF (fsN H M un cs e) 0) (nmF (fsN H M un cs (putE e k h v)) 0) H) from by unfold chV; rw [if_pos hg, if_pos hg2, if_neg c8, if_neg c9]]
          refine r_aload_n dX9_changed_0 rfl ?_
          refine r_iload_n dX9_changed_1 rfl ?_
          refine r_virtV (m0_House o b (nI h) x0 p4 hS.1 (by rw [hH]; exact (isH_of hh (by omega)))) lk_X9_142 mc_X9_mustBeHouse dX9_changed_2 x0 (by decide) rfl rfl (Nat.le_of_ble_eq_true rfl) ?_
          refine r_aload_n dX9_changed_5 rfl ?_
          refine r_iload_n dX9_changed_6 rfl ?_
          refine r_iconst (v := nI 2) dX9_changed_7 (by decide) ?_
          refine r_virtV (m0_What o (nI k) (nI 2) (isH_of hk2 (by omega))) lk_X9_162 mc_X9_mustBeWhat dX9_changed_8 x0 (by decide) rfl rfl (Nat.le_of_ble_eq_true rfl) ?_
          refine r_aload_n dX9_changed_11 rfl ?_
          refine r_iload dX9_changed_12 rfl ?_
          refine r_iconst (v := nI 2) dX9_changed_14 (by decide) ?_
          refine r_virtV (m0_What o (nI w) (nI 2) (isH_of hw2 (by omega))) lk_X9_162 mc_X9_mustBeWhat dX9_changed_15 x0 (by decide) rfl rfl (Nat.le_of_ble_eq_true rfl) ?_
          refine r_iload_n dX9_changed_18 rfl ?_
          refine r_if_lt (tgt := 28) dX9_changed_19 (by decide) (fun hz => absurd hz (show ¬ _ from (z_nlt (by omega)))) (fun _ => ?_)
          refine r_iload_n dX9_changed_22 rfl ?_
          refine r_bipush (v := nI 99) dX9_changed_23 (by decide) ?_
          refine r_icmp_le (tgt := 36) dX9_changed_25 (by decide) (fun _ => ?_) (fun hz => absurd (show _ from ((nI_leI (by omega) (by decide)).mpr hv)) hz)
          refine r_aload_n dX9_changed_36 rfl ?_
          refine r_virt (kc2 := 0) (ks2 := 0) (k_search o b s f l hC0 hz0) lk_X9_183 mc_X9_search dX9_changed_37 x0 (by decide) rfl rfl (Nat.le_of_ble_eq_true rfl) (by decide) (by decide) (fun _ _ _ _ _ _ h => nomatch h.1) ?_
          rintro v1 n1 kd1 I1 J1 P1 ⟨h00, rfl, rfl, hfr, h56, hC1, h11⟩
          cases h00
          simp only [Option.toList, List.nil_append]
          obtain ⟨f9, f10, fS, fJ⟩ := hC1.found h11 hz0
          obtain ⟨⟨y0, y1, y2⟩, -, -, ⟨hQ1, hA1, hG1, hW1, -, -, -⟩, ⟨-, -, -, r10, r12, r13, r14, -, -, -⟩, ⟨r4, r5, r6, r7⟩, -, -, -⟩ := id hC1.1
          have hH1 := hC1.H0
          have hMo1 := hC1.M0
          have hS1 := hC1.1.S
          have hL1 := hC1.1.L
          refine r_aload_n dX9_changed_40 rfl ?_
          refine r_getR dX9_changed_41 fl_X9_54 rfl (by assumption) (by assumption) ?_
          refine r_getI dX9_changed_44 fl_X9_186 rfl hQ1.1 ?_
          rw [f10, if_pos hg]
          refine r_bipush (v := (-2)) dX9_changed_47 (by decide) ?_
          refine r_icmp_ne (tgt := 55) dX9_changed_49 (by decide) (fun _ => ?_) (fun hz => absurd hz (show ¬ _ from (nI_m2 (by omega))))
          refine r_aload_n dX9_changed_55 rfl ?_
          refine r_getR dX9_changed_56 fl_X9_41 rfl y0 r7 ?_
          refine r_aload_n dX9_changed_59 rfl ?_
          refine r_getR dX9_changed_60 fl_X9_37 rfl y0 r6 ?_
          refine r_virt (kc2 := 0) (ks2 := 0) (c_X2_copy l f hC1.1.L2 hL1 (by omega)) lk_X9_264 mc_X2_copy dX9_changed_63 hC1.1.L2.1 (by decide) rfl rfl (Nat.le_of_ble_eq_true rfl) (by decide) (by decide) (fun _ _ _ _ _ _ h => nomatch h.1) ?_
          rintro v2 n2 kd2 I2 J2 P2 ⟨h00, rfl, rfl, rfl, rfl, hfr2, g0, g1, g3, g4⟩
          cases h00
          simp only [Option.toList, List.nil_append]
          have hC2 := hC1.tl hfr2
          have hcl2 := cL_copy hH8 okl g0 g1 g3 g4 hC1.2.2.2.2.1
          refine r_aload_n dX9_changed_66 rfl ?_
          refine r_getR dX9_changed_67 fl_X9_41 rfl y0 r7 ?_
          refine r_iload_n dX9_changed_70 rfl ?_
          refine r_iload_n dX9_changed_71 rfl ?_
          refine r_iload_n dX9_changed_72 rfl ?_
          have hC3 := hC2.tl (I' := putL I2 l (nI k) h (nI v)) (fun a a1 => putL_fr a1)
          have hcl3 := cL_put (show k < 3 by omega) hh hH8 (fun q => absurd q (by omega)) hcl2 (v := v)
          have okl3 := okL_put (k := k) (h := h) hv okl
          have hSt3 := hC3.2.2.2.1
          refine r_virtV (c_X2_put l h (nI k) (nI v) hC1.1.L2 (by omega)) lk_X9_274 mc_X2_put dX9_changed_73 hC1.1.L2.1 (by decide) rfl rfl (Nat.le_of_ble_eq_true rfl) ?_
          generalize hI3 : putL I2 l (nI k) h (nI v) = I3 at hC3 hcl3 hSt3 ⊢
          have hB3 : Bs o I1 I3 J2 J2 P2 P2 := Bs.tl (l := l) (by omega) (fun a a1 => by rw [← hI3]; exact putL_fr a1) (Bs.tl (l := l) (by omega) hfr2 Bs.rf)
          have h113 : I3 o 11 = nI 1 := by rw [← hI3, putL_fr (by omega), hfr2 o (by omega)]; exact h11
          refine r_aload_n dX9_changed_76 rfl ?_
          refine r_getR dX9_changed_77 fl_X9_64 rfl y0 r12 ?_
          refine r_getR dX9_changed_80 fl_X9_198 rfl hA1.1 hA1.2.2.2.2.1 ?_
          refine r_astore dX9_changed_83 (by decide) ?_
          refine r_aload dX9_changed_85 rfl ?_
          refine r_aload_n dX9_changed_87 rfl ?_
          refine r_getR dX9_changed_88 fl_X9_27 rfl y0 r4 ?_
          refine r_aload_n dX9_changed_91 rfl ?_
          refine r_getR dX9_changed_92 fl_X9_41 rfl y0 r7 ?_
          refine r_aload_n dX9_changed_95 rfl ?_
          refine r_getR dX9_changed_96 fl_X9_27 rfl y0 r4 ?_
          refine r_aload_n dX9_changed_99 rfl ?_
          refine r_getR dX9_changed_100 fl_X9_41 rfl y0 r7 ?_
          refine r_virtE (c_X7_speaking b l hS1 hC1.1.L2) lk_X9_300 mc_X7_speaking dX9_changed_103 hS1.1 (by decide) rfl rfl (Nat.le_of_ble_eq_true rfl) ?_
          rw [sp_c hSt3 hcl3]
          refine r_iconst (v := nI 1) dX9_changed_106 (by decide) ?_
          refine r_virtV (c_setUpN (o + 48) b l H M (putE e k h v).2.2.2.2.length (nI (spB H cs (putE e k h v))) (nI 1) (lkO cs H) cs un (LtO (putE e k h v).2.2.2.2) (I3 (l + 1)) (I3 (l + 2)) hS1 hC1.1.L2 hA1.2.1 (by omega) (by omega) (by omega) hH8 (z_cl hSt3 hcl3 oks okl3)) lk_X9_304 mc_X6_setUp dX9_changed_107 hA1.2.1.1 (by decide) rfl rfl (Nat.le_of_ble_eq_true rfl) ?_
          refine r_aload dX9_changed_110 rfl ?_
          refine r_virt (kc2 := 0) (ks2 := 0) (c_seekAllN (o + 48) b l H M (putE e k h v).2.2.2.2.length (nI (spB H cs (putE e k h v))) (nI 1) (lkO cs H) cs un (LtO (putE e k h v).2.2.2.2) (I3 (l + 1)) (I3 (l + 2)) (zN H M un cs (putE e k h v)) hS1 hC1.1.L2 hA1.2.1 (by omega) (by omega) (by omega) hH8 (z_cl hSt3 hcl3 oks okl3) hM20.2 (fun k hk hb => by rw [← sp_c hSt3 hcl3, b_and, Bool.and_eq_true] at hb; exact hb.1) (zR_c hH8 hM20.2 hcl3)) lk_X9_308 mc_X6_seekAll dX9_changed_112 hA1.2.1.1 (by decide) rfl rfl (Nat.le_of_ble_eq_true rfl) (by decide) (by decide) (fun _ _ _ _ _ _ h => nomatch h.1) ?_
          rintro v4 n4 kd4 I4 J4 P4 ⟨h00, rfl, rfl, hqf, hsp4, hf9, hf10, hf5, hJ4⟩
          cases h00
          simp only [Option.toList, List.nil_append, List.cons_append]
          have hC4 := hC3.qf (Or.inl rfl) hqf
          have hB4 := hB3.qf (x := b) (by omega) hqf
          have hfd4 := hC4.found (by rw [hqf.1 o (by omega) (by omega)]; exact h113) hz0
          obtain ⟨⟨w0, -, -⟩, -, -, ⟨hQ4, hA4, -, -, -, -, -⟩, ⟨-, -, -, w10, w12, -, -, -, -, -⟩, ⟨w4, -, -, -⟩, -, -, -⟩ := id hC4.1
          rw [skA_t hg2, show (zN H M un cs (putE e k h v)).2.1.length = (fsN H M un cs (putE e k h v)).length from rfl]
          refine r_bipush (v := (-2)) dX9_changed_115 (by decide) ?_
          refine r_icmp_ne (tgt := 123) dX9_changed_117 (by decide) (fun _ => ?_) (fun hz => absurd hz (show ¬ _ from (nI_m2 (by omega))))
          refine r_iload dX9_changed_123 rfl ?_
          refine r_if_ne (tgt := 137) dX9_changed_125 (by decide) (fun _ => ?_) (fun hz => absurd hz (show ¬ _ from (nI_ne0 (by omega) (by omega))))
          refine r_aload_n dX9_changed_137 rfl ?_
          refine r_aload dX9_changed_138 rfl ?_
          refine r_virtE (c_X9_far o b (o + 41) (o + 48) H (fsN H M un cs e).length (fsN H M un cs (putE e k h v)).length (nmF (fsN H M un cs e) 0) (nmF (fsN H M un cs (putE e k h v)) 0) w0 w4 w10 hC4.1.S.1 hC4.H0 hH8 hQ4 hA4.2.1 (by rw [hfd4.2.1, if_pos hg]) (hf10.trans (skA_t hg2)) hl hl2 (fun h hh => ⟨(hfd4.2.2.2 hg).2 0 h (by omega) hh, Nat.lt_of_le_of_lt (nm_le (fs_rng hH8 hM20.2) (by omega) hh hM20.2) (by decide)⟩) (fun h8 hh => ⟨by rw [hJ4]; exact pk_num (zR_rng hH8 hM20.2).2 hM20.2 hH8 hl2 (show 0 < (fsN H M un cs (putE e k h v)).length by omega) hh, Nat.lt_of_le_of_lt (nm_le (fs_rng hH8 hM20.2) (by omega) hh hM20.2) (by decide)⟩) (by omega) (by omega)) lk_X9_315 mc_X9_farFromNow dX9_changed_140 w0 (by decide) rfl rfl (Nat.le_of_ble_eq_true rfl) ?_
          refine r_iret rfl dX9_changed_143 ?_
          exact ⟨rfl, ⟨Nat.le_refl _, Nat.le_succ _⟩, fun q => by rw [hB4.2, h56]; exact q, fun a a1 a2 => ⟨rfl, ((hB4.1 a a1 a2).1).trans (hfr a (by omega)).1, ((hB4.1 a a1 a2).2.1).trans (hfr a (by omega)).2.1, ((hB4.1 a a1 a2).2.2).trans (hfr a (by omega)).2.2⟩, b, s, f, l, hC4⟩


/-! SEARCH, NUMBERINGS, TRIES, KNOT: both sides -/
def seG (n : Nat) (kd : mK) (I : mI) (J : mJ) (P : mP) (o b H : Nat) (res : Nat × List (Nat → Nat) × Bool) (v : Option Value) : am_Post := fun z n' kd' I' J' P' => z = .inl v ∧ n' = n ∧ kd' = kd ∧ (∀ a, (a < o + 41 ∨ o + 46 < a) → a ≠ b + 8 → a ≠ o → I' a = I a) ∧ I' o = va_up (I o) 11 (nI 1) ∧ (∀ a, a ≠ o + 45 → J' a = J a) ∧ (∀ a, a ≠ o + 41 → P' a = P a) ∧ (∀ k, k ≠ 0 → k ≠ 1 → P' (o + 41) k = P (o + 41) k) ∧ I' (o + 41) 9 = nI res.1 ∧ I' (o + 41) 10 = skA res ∧ I' (o + 46) = SR H (fun j => if j < 8 then nI 0 else I (o + 46) j) res.2.1 ∧ J' (o + 45) = JR H (J (o + 45)) res.2.1
theorem dX9_search_0 : decode cX9_search 0 = .ok (.aload_n 0, 1) := by decide +kernel
theorem dX9_search_1 : decode cX9_search 1 = .ok (.getfield 58, 3) := by decide +kernel
theorem dX9_search_4 : decode cX9_search 4 = .ok (.ifCond .ne 43, 3) := by decide +kernel
theorem dX9_search_7 : decode cX9_search 7 = .ok (.aload_n 0, 1) := by decide +kernel
theorem dX9_search_8 : decode cX9_search 8 = .ok (.getfield 54, 3) := by decide +kernel
theorem dX9_search_11 : decode cX9_search 11 = .ok (.aload_n 0, 1) := by decide +kernel
theorem dX9_search_12 : decode cX9_search 12 = .ok (.getfield 27, 3) := by decide +kernel
theorem dX9_search_15 : decode cX9_search 15 = .ok (.aload_n 0, 1) := by decide +kernel
theorem dX9_search_16 : decode cX9_search 16 = .ok (.getfield 37, 3) := by decide +kernel
theorem dX9_search_19 : decode cX9_search 19 = .ok (.aload_n 0, 1) := by decide +kernel
theorem dX9_search_20 : decode cX9_search 20 = .ok (.getfield 27, 3) := by decide +kernel
theorem dX9_search_23 : decode cX9_search 23 = .ok (.aload_n 0, 1) := by decide +kernel
theorem dX9_search_24 : decode cX9_search 24 = .ok (.getfield 37, 3) := by decide +kernel
theorem dX9_search_27 : decode cX9_search 27 = .ok (.invokevirtual 300, 3) := by decide +kernel
theorem dX9_search_30 : decode cX9_search 30 = .ok (.iconst 1, 1) := by decide +kernel
theorem dX9_search_31 : decode cX9_search 31 = .ok (.invokevirtual 304, 3) := by decide +kernel
theorem dX9_search_34 : decode cX9_search 34 = .ok (.aload_n 0, 1) := by decide +kernel
theorem dX9_search_35 : decode cX9_search 35 = .ok (.getfield 54, 3) := by decide +kernel
theorem dX9_search_38 : decode cX9_search 38 = .ok (.invokevirtual 308, 3) := by decide +kernel
theorem dX9_search_41 : decode cX9_search 41 = .ok (.pop, 1) := by decide +kernel
theorem dX9_search_42 : decode cX9_search 42 = .ok (.aload_n 0, 1) := by decide +kernel
theorem dX9_search_43 : decode cX9_search 43 = .ok (.iconst 1, 1) := by decide +kernel
theorem dX9_search_44 : decode cX9_search 44 = .ok (.putfield 58, 3) := by decide +kernel
theorem dX9_search_47 : decode cX9_search 47 = .ok (.return_, 1) := by decide +kernel
set_option maxHeartbeats 4000000 in
set_option maxRecDepth 100000 in
theorem c_X9_search (o b f H M L : Nat) (lk : Nat → Nat) (rid : Nat → List Nat) (un : Bool) (Lt so de : Nat → Int32) (res : Nat × List (Nat → Nat) × Bool) {n : Nat} {kd : mK} {I : mI} {J : mJ} {P : mP} (c0 : kd o = some (0, 9)) (e10 : P o 10 = some (o + 41)) (e4 : P o 4 = some b) (e6 : P o 6 = some f) (hS : kS kd P b) (hL : kL kd P f) (hQ : kQ kd P (o + 41)) (hbo : o < b) (hbl : b + 9 < f) (hlo : f + 5 < o + 41) (ho9 : o + 41 < 1000000) (hH8 : H ≤ 8) (hM20 : M ≤ 20) (hc : clS I b f H M L lk rid un Lt so de) (hsk : skTop (TN un Lt L (I b 3 &&& (I f 2 ^^^ (-1))) (nI 1) lk (tvN so de (nI M) H rid) H) noB H M 1001 = some res) (hs0 : I o 11 = nI 0) : Ct yX9_search cX9_search 1 none 8 0 0 [.ref o] n kd I J P (seG n kd I J P o b H res none) := by
  refine ct_of 0 (by decide +kernel) (Nat.le_of_ble_eq_true rfl) rfl ?_
  refine r_aload_n dX9_search_0 rfl ?_
  refine r_getI dX9_search_1 fl_X9_58 rfl c0 ?_
  rw [hs0]
  refine r_if_ne (tgt := 47) dX9_search_4 (by decide) (fun hz => absurd (show _ from rfl) hz) (fun _ => ?_)
  refine r_aload_n dX9_search_7 rfl ?_
  refine r_getR dX9_search_8 fl_X9_54 rfl c0 e10 ?_
  refine r_aload_n dX9_search_11 rfl ?_
  refine r_getR dX9_search_12 fl_X9_27 rfl c0 e4 ?_
  refine r_aload_n dX9_search_15 rfl ?_
  refine r_getR dX9_search_16 fl_X9_37 rfl c0 e6 ?_
  refine r_aload_n dX9_search_19 rfl ?_
  refine r_getR dX9_search_20 fl_X9_27 rfl c0 e4 ?_
  refine r_aload_n dX9_search_23 rfl ?_
  refine r_getR dX9_search_24 fl_X9_37 rfl c0 e6 ?_
  refine r_virtE (c_X7_speaking b f hS hL) lk_X9_300 mc_X7_speaking dX9_search_27 hS.1 (by decide) rfl rfl (Nat.le_of_ble_eq_true rfl) ?_
  refine r_iconst (v := nI 1) dX9_search_30 (by decide) ?_
  refine r_virtV (c_setUpN (o + 41) b f H M L (I b 3 &&& (I f 2 ^^^ (-1))) (nI 1) lk rid un Lt so de hS hL hQ hbl hlo ho9 hH8 hc) lk_X9_304 mc_X6_setUp dX9_search_31 hQ.1 (by decide) rfl rfl (Nat.le_of_ble_eq_true rfl) ?_
  refine r_aload_n dX9_search_34 rfl ?_
  refine r_getR dX9_search_35 fl_X9_54 rfl c0 (by unfold suP; rw [am_up_n _ _ (show o ≠ o + 41 by omega)]; exact e10) ?_
  refine r_virt (c_seekAllN (o + 41) b f H M L (I b 3 &&& (I f 2 ^^^ (-1))) (nI 1) lk rid un Lt so de res hS hL hQ hbl hlo ho9 hH8 hc hM20 (fun k hk hx => by rw [b_and, Bool.and_eq_true] at hx; exact hx.1) hsk) lk_X9_308 mc_X6_seekAll dX9_search_38 hQ.1 (by decide) rfl rfl (Nat.le_of_ble_eq_true rfl) (Nat.le_of_eq (Nat.zero_add _)) (Nat.le_of_eq (Nat.zero_add _)) (fun _ _ _ _ _ _ h => nomatch h.1) ?_
  rintro v n1 kd1 I1 J1 P1 ⟨h0, g1, g2, hfr, gP, g9, g10, g5, gJ⟩
  cases h0
  subst g1 g2
  simp only [Option.toList, List.cons_append, List.nil_append]
  refine r_pop dX9_search_41 rfl ?_
  refine r_aload_n dX9_search_42 rfl ?_
  refine r_iconst (v := nI 1) dX9_search_43 (by decide) ?_
  refine r_putZ dX9_search_44 fl_X9_58 rfl rfl (Or.inr rfl) c0 ?_
  refine r_vret rfl dX9_search_47 ?_
  refine ⟨rfl, rfl, rfl, fun a x y z => ?_, ?_, hfr.2.1, hfr.2.2.1, hfr.2.2.2, ?_, ?_, ?_, gJ⟩
  · rw [am_up_n _ _ z]
    exact hfr.1 a (by omega) y
  · rw [am_up_s, hfr.1 o (by omega) (by omega)]
  · rw [am_up_n _ _ (show o + 41 ≠ o by omega)]; exact g9
  · rw [am_up_n _ _ (show o + 41 ≠ o by omega)]; exact g10
  · rw [am_up_n _ _ (show o + 46 ≠ o by omega)]; exact g5

theorem dX9_numberings_0 : decode cX9_numberings 0 = .ok (.aload_n 0, 1) := by decide +kernel
theorem dX9_numberings_1 : decode cX9_numberings 1 = .ok (.invokevirtual 183, 3) := by decide +kernel
theorem dX9_numberings_4 : decode cX9_numberings 4 = .ok (.aload_n 0, 1) := by decide +kernel
theorem dX9_numberings_5 : decode cX9_numberings 5 = .ok (.getfield 54, 3) := by decide +kernel
theorem dX9_numberings_8 : decode cX9_numberings 8 = .ok (.getfield 186, 3) := by decide +kernel
theorem dX9_numberings_11 : decode cX9_numberings 11 = .ok (.ireturn, 1) := by decide +kernel
set_option maxHeartbeats 4000000 in
set_option maxRecDepth 100000 in
theorem c_X9_numberings (o b f H M L : Nat) (lk : Nat → Nat) (rid : Nat → List Nat) (un : Bool) (Lt so de : Nat → Int32) (res : Nat × List (Nat → Nat) × Bool) {n : Nat} {kd : mK} {I : mI} {J : mJ} {P : mP} (c0 : kd o = some (0, 9)) (e10 : P o 10 = some (o + 41)) (e4 : P o 4 = some b) (e6 : P o 6 = some f) (hS : kS kd P b) (hL : kL kd P f) (hQ : kQ kd P (o + 41)) (hbo : o < b) (hbl : b + 9 < f) (hlo : f + 5 < o + 41) (ho9 : o + 41 < 1000000) (hH8 : H ≤ 8) (hM20 : M ≤ 20) (hc : clS I b f H M L lk rid un Lt so de) (hsk : skTop (TN un Lt L (I b 3 &&& (I f 2 ^^^ (-1))) (nI 1) lk (tvN so de (nI M) H rid) H) noB H M 1001 = some res) (hs0 : I o 11 = nI 0) : Ct yX9_numberings cX9_numberings 1 (some .int) 9 0 0 [.ref o] n kd I J P (seG n kd I J P o b H res (some (.int (skA res)))) := by
  refine ct_of 0 (by decide +kernel) (Nat.le_of_ble_eq_true rfl) rfl ?_
  refine r_aload_n dX9_numberings_0 rfl ?_
  refine r_virt (c_X9_search o b f H M L lk rid un Lt so de res c0 e10 e4 e6 hS hL hQ hbo hbl hlo ho9 hH8 hM20 hc hsk hs0) lk_X9_183 mc_X9_search dX9_numberings_1 c0 (by decide) rfl rfl (Nat.le_of_ble_eq_true rfl) (Nat.le_of_eq (Nat.zero_add _)) (Nat.le_of_eq (Nat.zero_add _)) (fun _ _ _ _ _ _ h => nomatch h.1) ?_
  rintro v n1 kd1 I1 J1 P1 ⟨h0, g1, g2, f1, f2, f3, f4, f5, f6, f7, f8, f9⟩
  cases h0
  subst g1 g2
  simp only [Option.toList, List.nil_append]
  refine r_aload_n dX9_numberings_4 rfl ?_
  refine r_getR dX9_numberings_5 fl_X9_54 rfl c0 (by rw [f4 o (by omega)]; exact e10) ?_
  refine r_getI dX9_numberings_8 fl_X9_186 rfl hQ.1 ?_
  rw [f7]
  refine r_iret rfl dX9_numberings_11 ?_
  exact ⟨rfl, rfl, rfl, f1, f2, f3, f4, f5, f6, f7, f8, f9⟩

theorem dX9_tries_0 : decode cX9_tries 0 = .ok (.aload_n 0, 1) := by decide +kernel
theorem dX9_tries_1 : decode cX9_tries 1 = .ok (.invokevirtual 183, 3) := by decide +kernel
theorem dX9_tries_4 : decode cX9_tries 4 = .ok (.aload_n 0, 1) := by decide +kernel
theorem dX9_tries_5 : decode cX9_tries 5 = .ok (.getfield 54, 3) := by decide +kernel
theorem dX9_tries_8 : decode cX9_tries 8 = .ok (.getfield 186, 3) := by decide +kernel
theorem dX9_tries_11 : decode cX9_tries 11 = .ok (.bipush (-2), 2) := by decide +kernel
theorem dX9_tries_13 : decode cX9_tries 13 = .ok (.if_icmp .ne 8, 3) := by decide +kernel
theorem dX9_tries_16 : decode cX9_tries 16 = .ok (.bipush (-2), 2) := by decide +kernel
theorem dX9_tries_18 : decode cX9_tries 18 = .ok (.goto 10, 3) := by decide +kernel
theorem dX9_tries_21 : decode cX9_tries 21 = .ok (.aload_n 0, 1) := by decide +kernel
theorem dX9_tries_22 : decode cX9_tries 22 = .ok (.getfield 54, 3) := by decide +kernel
theorem dX9_tries_25 : decode cX9_tries 25 = .ok (.getfield 189, 3) := by decide +kernel
theorem dX9_tries_28 : decode cX9_tries 28 = .ok (.ireturn, 1) := by decide +kernel
set_option maxHeartbeats 4000000 in
set_option maxRecDepth 100000 in
theorem c_X9_tries (o b f H M L : Nat) (lk : Nat → Nat) (rid : Nat → List Nat) (un : Bool) (Lt so de : Nat → Int32) (res : Nat × List (Nat → Nat) × Bool) {n : Nat} {kd : mK} {I : mI} {J : mJ} {P : mP} (c0 : kd o = some (0, 9)) (e10 : P o 10 = some (o + 41)) (e4 : P o 4 = some b) (e6 : P o 6 = some f) (hS : kS kd P b) (hL : kL kd P f) (hQ : kQ kd P (o + 41)) (hbo : o < b) (hbl : b + 9 < f) (hlo : f + 5 < o + 41) (ho9 : o + 41 < 1000000) (hH8 : H ≤ 8) (hM20 : M ≤ 20) (hc : clS I b f H M L lk rid un Lt so de) (hsk : skTop (TN un Lt L (I b 3 &&& (I f 2 ^^^ (-1))) (nI 1) lk (tvN so de (nI M) H rid) H) noB H M 1001 = some res) (hs0 : I o 11 = nI 0) : Ct yX9_tries cX9_tries 1 (some .int) 9 0 0 [.ref o] n kd I J P (seG n kd I J P o b H res (some (.int (if skA res = -2 then -2 else nI res.1)))) := by
  refine ct_of 0 (by decide +kernel) (Nat.le_of_ble_eq_true rfl) rfl ?_
  by_cases c : skA res = -2
  · rw [if_pos c]
    refine r_aload_n dX9_tries_0 rfl ?_
    refine r_virt (c_X9_search o b f H M L lk rid un Lt so de res c0 e10 e4 e6 hS hL hQ hbo hbl hlo ho9 hH8 hM20 hc hsk hs0) lk_X9_183 mc_X9_search dX9_tries_1 c0 (by decide) rfl rfl (Nat.le_of_ble_eq_true rfl) (Nat.le_of_eq (Nat.zero_add _)) (Nat.le_of_eq (Nat.zero_add _)) (fun _ _ _ _ _ _ h => nomatch h.1) ?_
    rintro v n1 kd1 I1 J1 P1 ⟨h0, g1, g2, f1, f2, f3, f4, f5, f6, f7, f8, f9⟩
    cases h0
    subst g1 g2
    simp only [Option.toList, List.nil_append]
    refine r_aload_n dX9_tries_4 rfl ?_
    refine r_getR dX9_tries_5 fl_X9_54 rfl c0 (by rw [f4 o (by omega)]; exact e10) ?_
    refine r_getI dX9_tries_8 fl_X9_186 rfl hQ.1 ?_
    rw [f7]
    refine r_bipush (v := (-2)) dX9_tries_11 (by decide) ?_
    refine r_icmp_ne (tgt := 21) dX9_tries_13 (by decide) (fun hz => absurd (show _ from c) hz) (fun _ => ?_)
    refine r_bipush (v := (-2)) dX9_tries_16 (by decide) ?_
    refine r_goto (tgt := 28) dX9_tries_18 (by decide) ?_
    refine r_iret rfl dX9_tries_28 ?_
    exact ⟨rfl, rfl, rfl, f1, f2, f3, f4, f5, f6, f7, f8, f9⟩
  · rw [if_neg c]
    refine r_aload_n dX9_tries_0 rfl ?_
    refine r_virt (c_X9_search o b f H M L lk rid un Lt so de res c0 e10 e4 e6 hS hL hQ hbo hbl hlo ho9 hH8 hM20 hc hsk hs0) lk_X9_183 mc_X9_search dX9_tries_1 c0 (by decide) rfl rfl (Nat.le_of_ble_eq_true rfl) (Nat.le_of_eq (Nat.zero_add _)) (Nat.le_of_eq (Nat.zero_add _)) (fun _ _ _ _ _ _ h => nomatch h.1) ?_
    rintro v n1 kd1 I1 J1 P1 ⟨h0, g1, g2, f1, f2, f3, f4, f5, f6, f7, f8, f9⟩
    cases h0
    subst g1 g2
    simp only [Option.toList, List.nil_append]
    refine r_aload_n dX9_tries_4 rfl ?_
    refine r_getR dX9_tries_5 fl_X9_54 rfl c0 (by rw [f4 o (by omega)]; exact e10) ?_
    refine r_getI dX9_tries_8 fl_X9_186 rfl hQ.1 ?_
    rw [f7]
    refine r_bipush (v := (-2)) dX9_tries_11 (by decide) ?_
    refine r_icmp_ne (tgt := 21) dX9_tries_13 (by decide) (fun _ => ?_) (fun hz => absurd hz (show ¬ _ from c))
    refine r_aload_n dX9_tries_21 rfl ?_
    refine r_getR dX9_tries_22 fl_X9_54 rfl c0 (by rw [f4 o (by omega)]; exact e10) ?_
    refine r_getI dX9_tries_25 fl_X9_189 rfl hQ.1 ?_
    rw [f6]
    refine r_iret rfl dX9_tries_28 ?_
    exact ⟨rfl, rfl, rfl, f1, f2, f3, f4, f5, f6, f7, f8, f9⟩

theorem dX10_seeksAll_0 : decode cX10_seeksAll 0 = .ok (.aload_n 0, 1) := by decide +kernel
theorem dX10_seeksAll_1 : decode cX10_seeksAll 1 = .ok (.aload_n 0, 1) := by decide +kernel
theorem dX10_seeksAll_2 : decode cX10_seeksAll 2 = .ok (.invokevirtual 429, 3) := by decide +kernel
theorem dX10_seeksAll_5 : decode cX10_seeksAll 5 = .ok (.iconst 1, 1) := by decide +kernel
theorem dX10_seeksAll_6 : decode cX10_seeksAll 6 = .ok (.sipush 1001, 3) := by decide +kernel
theorem dX10_seeksAll_9 : decode cX10_seeksAll 9 = .ok (.invokevirtual 432, 3) := by decide +kernel
theorem dX10_seeksAll_12 : decode cX10_seeksAll 12 = .ok (.ireturn, 1) := by decide +kernel
set_option maxHeartbeats 4000000 in
set_option maxRecDepth 100000 in
theorem c_X10_seeksAll (m H M L : Nat) (lk : Nat → Nat) (rid : Nat → List Nat) (un : Bool) (Lt so de : Nat → Int32) (rb : Nat → Bool) (res : Nat × List (Nat → Nat) × Bool) {n : Nat} {kd : mK} {I : mI} {J : mJ} {P : mP} (hR : rfS kd P I m H M L lk rid un Lt so de rb) (hH8 : H ≤ 8) (hM20 : M ≤ 20) (hr : ∀ k, k < H → bt (spR (I (m + 3)) (I (m + 4)) H) k = true → rb k = true) (hsk : skTop (TN un Lt L (spR (I (m + 3)) (I (m + 4)) H) (nI 1) lk (tvN so de (nI M) H rid) H) noB H M 1001 = some res) : Ct yX10_seeksAll cX10_seeksAll 1 (some .boolean) 6 0 0 [.ref m] n kd I J P (xkG n kd I J P m H res) := by
  refine ct_of 0 (by decide +kernel) (Nat.le_of_ble_eq_true rfl) rfl ?_
  refine r_aload_n dX10_seeksAll_0 rfl ?_
  refine r_aload_n dX10_seeksAll_1 rfl ?_
  refine r_virtE (c_X10_speaking m H hR.1 hR.2.1 hH8) lk_X10_429 mc_X10_speaking dX10_seeksAll_2 hR.1.1 (by decide) rfl rfl (Nat.le_of_ble_eq_true rfl) ?_
  refine r_iconst (v := nI 1) dX10_seeksAll_5 (by decide) ?_
  refine r_sipush (v := nI 1001) dX10_seeksAll_6 (by decide) ?_
  refine r_virt (c_seeksN m H M L lk rid un Lt so de rb (spR (I (m + 3)) (I (m + 4)) H) (nI 1) 1001 res hR hH8 hM20 (by decide) (by decide) hr hsk) lk_X10_432 mc_X10_seeks dX10_seeksAll_9 hR.1.1 (by decide) rfl rfl (Nat.le_of_ble_eq_true rfl) (Nat.le_of_eq (Nat.zero_add _)) (Nat.le_of_eq (Nat.zero_add _)) (fun _ _ _ _ _ _ h => nomatch h.1) ?_
  rintro v n1 kd1 I1 J1 P1 ⟨h0, hx⟩
  cases h0
  simp only [Option.toList, List.cons_append, List.nil_append]
  refine r_zret rfl dX10_seeksAll_12 (bz01 _) ⟨rfl, hx⟩

def xnG (n : Nat) (kd : mK) (I : mI) (J : mJ) (P : mP) (m H : Nat) (res : Nat × List (Nat → Nat) × Bool) (v : Int32) : am_Post := fun z n' kd' I' J' P' => z = .inl (some (.int v)) ∧ n' = n ∧ kd' = kd ∧ J' = J ∧ P' = P ∧ I' m 0 = nI 0 ∧ (∀ a, a ≠ m → a ≠ m + 25 → a ≠ m + 26 → a ≠ m + 27 → I' a = I a)
theorem rfS.th {kd : mK} {P : mP} {I : mI} {m H M L : Nat} {lk : Nat → Nat} {rid : Nat → List Nat} {un : Bool} {Lt so de : Nat → Int32} {rb : Nat → Bool} {x : Int32} (h : rfS kd P I m H M L lk rid un Lt so de rb) : rfS kd P (va_up I m (va_up (I m) 0 x)) m H M L lk rid un Lt so de rb := by
  obtain ⟨h1, h2, h3, h4, h5, h6, h7, h8, h9, h10, h11, h12, h13⟩ := h
  have e : ∀ i, 0 < i → va_up I m (va_up (I m) 0 x) (m + i) = I (m + i) := fun i hi => am_up_n _ _ (by omega)
  have r : ∀ j, 0 < j → va_up I m (va_up (I m) 0 x) m j = I m j := fun j hj => by rw [am_up_s, am_up_n _ _ (by omega)]
  refine ⟨h1, by rw [r 1 (by decide)]; exact h2, by rw [r 2 (by decide)]; exact h3, by rw [r 3 (by decide)]; exact h4, by rw [r 47 (by decide)]; exact h5, by rw [e 24 (by decide)]; exact h6, by rw [r 54 (by decide)]; exact h7, by rw [r 58 (by decide)]; exact h8, by rw [e 1 (by decide)]; exact h9, by rw [e 2 (by decide)]; exact h10, ?_, ?_, h13⟩
  · unfold lkOkR at *
    rw [e 6 (by decide), r 1 (by decide)]
    exact h11
  · rw [e 5 (by decide), e 7 (by decide)]
    exact h12
theorem skA_eq (res : Nat × List (Nat → Nat) × Bool) : skA res = if (!res.2.2 && decide (res.2.1.length ≤ 1000)) = true then nI res.2.1.length else -2 := by
  unfold skA
  cases res.2.2
  · by_cases h : 1000 < res.2.1.length
    · simp [h, show ¬ res.2.1.length ≤ 1000 by omega]
    · simp [h, show res.2.1.length ≤ 1000 by omega]
  · simp
theorem dX10_numberings_0 : decode cX10_numberings 0 = .ok (.aload_n 0, 1) := by decide +kernel
theorem dX10_numberings_1 : decode cX10_numberings 1 = .ok (.iconst 0, 1) := by decide +kernel
theorem dX10_numberings_2 : decode cX10_numberings 2 = .ok (.putfield 193, 3) := by decide +kernel
theorem dX10_numberings_5 : decode cX10_numberings 5 = .ok (.aload_n 0, 1) := by decide +kernel
theorem dX10_numberings_6 : decode cX10_numberings 6 = .ok (.invokevirtual 436, 3) := by decide +kernel
theorem dX10_numberings_9 : decode cX10_numberings 9 = .ok (.ifCond .eq 10, 3) := by decide +kernel
theorem dX10_numberings_12 : decode cX10_numberings 12 = .ok (.aload_n 0, 1) := by decide +kernel
theorem dX10_numberings_13 : decode cX10_numberings 13 = .ok (.getfield 413, 3) := by decide +kernel
theorem dX10_numberings_16 : decode cX10_numberings 16 = .ok (.goto 5, 3) := by decide +kernel
theorem dX10_numberings_19 : decode cX10_numberings 19 = .ok (.bipush (-2), 2) := by decide +kernel
theorem dX10_numberings_21 : decode cX10_numberings 21 = .ok (.ireturn, 1) := by decide +kernel
set_option maxHeartbeats 4000000 in
set_option maxRecDepth 100000 in
theorem c_X10_numberings (m H M L : Nat) (lk : Nat → Nat) (rid : Nat → List Nat) (un : Bool) (Lt so de : Nat → Int32) (rb : Nat → Bool) (res : Nat × List (Nat → Nat) × Bool) {n : Nat} {kd : mK} {I : mI} {J : mJ} {P : mP} (hR : rfS kd P I m H M L lk rid un Lt so de rb) (hH8 : H ≤ 8) (hM20 : M ≤ 20) (hr : ∀ k, k < H → bt (spR (I (m + 3)) (I (m + 4)) H) k = true → rb k = true) (hsk : skTop (TN un Lt L (spR (I (m + 3)) (I (m + 4)) H) (nI 1) lk (tvN so de (nI M) H rid) H) noB H M 1001 = some res) : Ct yX10_numberings cX10_numberings 1 (some .int) 7 0 0 [.ref m] n kd I J P (xnG n kd I J P m H res (if (!res.2.2 && decide (res.2.1.length ≤ 1000)) = true then nI res.2.1.length else -2)) := by
  refine ct_of 0 (by decide +kernel) (Nat.le_of_ble_eq_true rfl) rfl ?_
  by_cases c : (!res.2.2 && decide (res.2.1.length ≤ 1000)) = true
  · rw [if_pos c]
    have hcut : (cutF res.2.1).length = res.2.1.length := by unfold cutF; rw [if_pos (by rw [Bool.and_eq_true] at c; exact of_decide_eq_true c.2)]
    refine r_aload_n dX10_numberings_0 rfl ?_
    refine r_iconst (v := nI 0) dX10_numberings_1 (by decide) ?_
    refine r_putI dX10_numberings_2 fl_X10_193 rfl rfl hR.1.1 ?_
    refine r_aload_n dX10_numberings_5 rfl ?_
    have hsp : spR (va_up I m (va_up (I m) 0 (nI 0)) (m + 3)) (va_up I m (va_up (I m) 0 (nI 0)) (m + 4)) H = (spR (I (m + 3)) (I (m + 4)) H) := by rw [am_up_n _ _ (show m + 3 ≠ m by omega), am_up_n _ _ (show m + 4 ≠ m by omega)]
    refine r_virt (c_X10_seeksAll m H M L lk rid un Lt so de rb res hR.th hH8 hM20 (by rw [hsp]; exact hr) (by rw [hsp]; exact hsk)) lk_X10_436 mc_X10_seeksAll dX10_numberings_6 hR.1.1 (by decide) rfl rfl (Nat.le_of_ble_eq_true rfl) (Nat.le_of_eq (Nat.zero_add _)) (Nat.le_of_eq (Nat.zero_add _)) (fun _ _ _ _ _ _ h => nomatch h.1) ?_
    rintro v n1 kd1 I1 J1 P1 ⟨h0, g1, g2, g3, g4, hfr, x52, x53, -⟩
    cases h0
    subst g1 g2 g3 g4
    simp only [Option.toList, List.cons_append, List.nil_append]
    refine r_if_eq (tgt := 19) dX10_numberings_9 (by decide) (fun hz => absurd hz (show ¬ _ from by rw [c]; decide)) (fun _ => ?_)
    refine r_aload_n dX10_numberings_12 rfl ?_
    refine r_getI dX10_numberings_13 fl_X10_413 rfl hR.1.1 ?_
    rw [x52, hcut]
    refine r_goto (tgt := 21) dX10_numberings_16 (by decide) ?_
    refine r_iret rfl dX10_numberings_21 ?_
    exact ⟨rfl, rfl, rfl, rfl, rfl, by rw [hfr.2 0 (by decide) (by decide), am_up_s, am_up_s], fun a w x y z => by rw [hfr.1 a w x y z, am_up_n _ _ w]⟩
  · rw [if_neg c]
    have c' : (!res.2.2 && decide (res.2.1.length ≤ 1000)) = false := by simpa using c
    refine r_aload_n dX10_numberings_0 rfl ?_
    refine r_iconst (v := nI 0) dX10_numberings_1 (by decide) ?_
    refine r_putI dX10_numberings_2 fl_X10_193 rfl rfl hR.1.1 ?_
    refine r_aload_n dX10_numberings_5 rfl ?_
    have hsp : spR (va_up I m (va_up (I m) 0 (nI 0)) (m + 3)) (va_up I m (va_up (I m) 0 (nI 0)) (m + 4)) H = (spR (I (m + 3)) (I (m + 4)) H) := by rw [am_up_n _ _ (show m + 3 ≠ m by omega), am_up_n _ _ (show m + 4 ≠ m by omega)]
    refine r_virt (c_X10_seeksAll m H M L lk rid un Lt so de rb res hR.th hH8 hM20 (by rw [hsp]; exact hr) (by rw [hsp]; exact hsk)) lk_X10_436 mc_X10_seeksAll dX10_numberings_6 hR.1.1 (by decide) rfl rfl (Nat.le_of_ble_eq_true rfl) (Nat.le_of_eq (Nat.zero_add _)) (Nat.le_of_eq (Nat.zero_add _)) (fun _ _ _ _ _ _ h => nomatch h.1) ?_
    rintro v n1 kd1 I1 J1 P1 ⟨h0, g1, g2, g3, g4, hfr, x52, x53, -⟩
    cases h0
    subst g1 g2 g3 g4
    simp only [Option.toList, List.cons_append, List.nil_append]
    refine r_if_eq (tgt := 19) dX10_numberings_9 (by decide) (fun _ => ?_) (fun hz => absurd (show _ from by rw [c']; rfl) hz)
    refine r_bipush (v := (-2)) dX10_numberings_19 (by decide) ?_
    refine r_iret rfl dX10_numberings_21 ?_
    exact ⟨rfl, rfl, rfl, rfl, rfl, by rw [hfr.2 0 (by decide) (by decide), am_up_s, am_up_s], fun a w x y z => by rw [hfr.1 a w x y z, am_up_n _ _ w]⟩

theorem dX10_tries_0 : decode cX10_tries 0 = .ok (.aload_n 0, 1) := by decide +kernel
theorem dX10_tries_1 : decode cX10_tries 1 = .ok (.iconst 0, 1) := by decide +kernel
theorem dX10_tries_2 : decode cX10_tries 2 = .ok (.putfield 193, 3) := by decide +kernel
theorem dX10_tries_5 : decode cX10_tries 5 = .ok (.aload_n 0, 1) := by decide +kernel
theorem dX10_tries_6 : decode cX10_tries 6 = .ok (.invokevirtual 436, 3) := by decide +kernel
theorem dX10_tries_9 : decode cX10_tries 9 = .ok (.ifCond .eq 10, 3) := by decide +kernel
theorem dX10_tries_12 : decode cX10_tries 12 = .ok (.aload_n 0, 1) := by decide +kernel
theorem dX10_tries_13 : decode cX10_tries 13 = .ok (.getfield 416, 3) := by decide +kernel
theorem dX10_tries_16 : decode cX10_tries 16 = .ok (.goto 5, 3) := by decide +kernel
theorem dX10_tries_19 : decode cX10_tries 19 = .ok (.bipush (-2), 2) := by decide +kernel
theorem dX10_tries_21 : decode cX10_tries 21 = .ok (.ireturn, 1) := by decide +kernel
set_option maxHeartbeats 4000000 in
set_option maxRecDepth 100000 in
theorem c_X10_tries (m H M L : Nat) (lk : Nat → Nat) (rid : Nat → List Nat) (un : Bool) (Lt so de : Nat → Int32) (rb : Nat → Bool) (res : Nat × List (Nat → Nat) × Bool) {n : Nat} {kd : mK} {I : mI} {J : mJ} {P : mP} (hR : rfS kd P I m H M L lk rid un Lt so de rb) (hH8 : H ≤ 8) (hM20 : M ≤ 20) (hr : ∀ k, k < H → bt (spR (I (m + 3)) (I (m + 4)) H) k = true → rb k = true) (hsk : skTop (TN un Lt L (spR (I (m + 3)) (I (m + 4)) H) (nI 1) lk (tvN so de (nI M) H rid) H) noB H M 1001 = some res) : Ct yX10_tries cX10_tries 1 (some .int) 7 0 0 [.ref m] n kd I J P (xnG n kd I J P m H res (if (!res.2.2 && decide (res.2.1.length ≤ 1000)) = true then nI res.1 else -2)) := by
  refine ct_of 0 (by decide +kernel) (Nat.le_of_ble_eq_true rfl) rfl ?_
  by_cases c : (!res.2.2 && decide (res.2.1.length ≤ 1000)) = true
  · rw [if_pos c]
    have hcut : (cutF res.2.1).length = res.2.1.length := by unfold cutF; rw [if_pos (by rw [Bool.and_eq_true] at c; exact of_decide_eq_true c.2)]
    refine r_aload_n dX10_tries_0 rfl ?_
    refine r_iconst (v := nI 0) dX10_tries_1 (by decide) ?_
    refine r_putI dX10_tries_2 fl_X10_193 rfl rfl hR.1.1 ?_
    refine r_aload_n dX10_tries_5 rfl ?_
    have hsp : spR (va_up I m (va_up (I m) 0 (nI 0)) (m + 3)) (va_up I m (va_up (I m) 0 (nI 0)) (m + 4)) H = (spR (I (m + 3)) (I (m + 4)) H) := by rw [am_up_n _ _ (show m + 3 ≠ m by omega), am_up_n _ _ (show m + 4 ≠ m by omega)]
    refine r_virt (c_X10_seeksAll m H M L lk rid un Lt so de rb res hR.th hH8 hM20 (by rw [hsp]; exact hr) (by rw [hsp]; exact hsk)) lk_X10_436 mc_X10_seeksAll dX10_tries_6 hR.1.1 (by decide) rfl rfl (Nat.le_of_ble_eq_true rfl) (Nat.le_of_eq (Nat.zero_add _)) (Nat.le_of_eq (Nat.zero_add _)) (fun _ _ _ _ _ _ h => nomatch h.1) ?_
    rintro v n1 kd1 I1 J1 P1 ⟨h0, g1, g2, g3, g4, hfr, x52, x53, -⟩
    cases h0
    subst g1 g2 g3 g4
    simp only [Option.toList, List.cons_append, List.nil_append]
    refine r_if_eq (tgt := 19) dX10_tries_9 (by decide) (fun hz => absurd hz (show ¬ _ from by rw [c]; decide)) (fun _ => ?_)
    refine r_aload_n dX10_tries_12 rfl ?_
    refine r_getI dX10_tries_13 fl_X10_416 rfl hR.1.1 ?_
    rw [x53]
    refine r_goto (tgt := 21) dX10_tries_16 (by decide) ?_
    refine r_iret rfl dX10_tries_21 ?_
    exact ⟨rfl, rfl, rfl, rfl, rfl, by rw [hfr.2 0 (by decide) (by decide), am_up_s, am_up_s], fun a w x y z => by rw [hfr.1 a w x y z, am_up_n _ _ w]⟩
  · rw [if_neg c]
    have c' : (!res.2.2 && decide (res.2.1.length ≤ 1000)) = false := by simpa using c
    refine r_aload_n dX10_tries_0 rfl ?_
    refine r_iconst (v := nI 0) dX10_tries_1 (by decide) ?_
    refine r_putI dX10_tries_2 fl_X10_193 rfl rfl hR.1.1 ?_
    refine r_aload_n dX10_tries_5 rfl ?_
    have hsp : spR (va_up I m (va_up (I m) 0 (nI 0)) (m + 3)) (va_up I m (va_up (I m) 0 (nI 0)) (m + 4)) H = (spR (I (m + 3)) (I (m + 4)) H) := by rw [am_up_n _ _ (show m + 3 ≠ m by omega), am_up_n _ _ (show m + 4 ≠ m by omega)]
    refine r_virt (c_X10_seeksAll m H M L lk rid un Lt so de rb res hR.th hH8 hM20 (by rw [hsp]; exact hr) (by rw [hsp]; exact hsk)) lk_X10_436 mc_X10_seeksAll dX10_tries_6 hR.1.1 (by decide) rfl rfl (Nat.le_of_ble_eq_true rfl) (Nat.le_of_eq (Nat.zero_add _)) (Nat.le_of_eq (Nat.zero_add _)) (fun _ _ _ _ _ _ h => nomatch h.1) ?_
    rintro v n1 kd1 I1 J1 P1 ⟨h0, g1, g2, g3, g4, hfr, x52, x53, -⟩
    cases h0
    subst g1 g2 g3 g4
    simp only [Option.toList, List.cons_append, List.nil_append]
    refine r_if_eq (tgt := 19) dX10_tries_9 (by decide) (fun _ => ?_) (fun hz => absurd (show _ from by rw [c']; rfl) hz)
    refine r_bipush (v := (-2)) dX10_tries_19 (by decide) ?_
    refine r_iret rfl dX10_tries_21 ?_
    exact ⟨rfl, rfl, rfl, rfl, rfl, by rw [hfr.2 0 (by decide) (by decide), am_up_s, am_up_s], fun a w x y z => by rw [hfr.1 a w x y z, am_up_n _ _ w]⟩


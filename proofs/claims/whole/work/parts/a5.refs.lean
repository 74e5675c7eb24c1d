/-! SMALL PUBLIC METHODS OF THE REFERENCE, on any state: two -/
theorem pQ.un {m n : Nat} {kd : mK} {I I1 : mI} {J : mJ} {P : mP} {v : Option Value} {k : Nat} {C : mK → mI → mP → Prop} (hI : ∀ a, (a < m ∨ m + 55 < a) → I1 a = I a) (y : (Option Value) ⊕ String) (n' : Nat) (kd' : mK) (I' : mI) (J' : mJ) (P' : mP) (h : pQ m n kd I1 J P v k C y n' kd' I' J' P') : pQ m n kd I J P v k C y n' kd' I' J' P' :=
  ⟨h.1, h.2.1, h.2.2.1, h.2.2.2.1, fun a ha => ⟨((h.2.2.2.2.1 a ha).1).trans (hI a ha), (h.2.2.2.2.1 a ha).2⟩, h.2.2.2.2.2⟩
theorem q_th {own : String} {cc : ByteArray} {nL : Nat} {ret : Option FieldType} {nm : String} {d kc ks pc : Nat} {ls : List (Option Value)} {st : List Value} {n m : Nat} {kd : mK} {I : mI} {J : mJ} {P : mP} {v : Option Value} {k : Nat} {C : mK → mI → mP → Prop} {t : Nat} {T : Nat → Nat} {fp : Int32} {rr : Nat → Int32} {H M : Nat} {un : Bool} {cs : Nat → List Nat} {tx : Nat → List Int32} {e : Lf} {im : Option Lf} {wk : Option (List Nat)} (hC : RR m kd I P t T fp rr H M un cs tx e im wk) (h : ∀ I1 : mI, RR m kd I1 P t T fp rr H M un cs tx e im wk → I1 m 0 = 0 → Ru own cc nL ret nm d (pQ m n kd I1 J P v k C) kc ks pc ls st n kd I1 J P) : Ru own cc nL ret nm d (pQ m n kd I J P v k C) kc ks pc ls st n kd (va_up I m (va_up (I m) 0 (nI 0))) J P :=
  RuZ.mono (h _ hC.th (by rw [am_up_s, am_up_s]; rfl)) (pQ.un (fun a ha => am_up_n _ _ (by omega)))
theorem RR.same {m n t : Nat} {kd : mK} {I : mI} {J : mJ} {P : mP} {T : Nat → Nat} {fp : Int32} {rr : Nat → Int32} {H M : Nat} {un : Bool} {cs : Nat → List Nat} {tx : Nat → List Int32} {e : Lf} {im : Option Lf} {wk : Option (List Nat)} {v : Option Value} (h0 : I m 0 = 0) (hC : RR m kd I P t T fp rr H M un cs tx e im wk) : pQ m n kd I J P v 0 (RX m t T fp rr H M un cs tx e im wk) (.inl v) n kd I J P := ⟨rfl, rfl, rfl, rfl, fun _ _ => ⟨rfl, rfl⟩, h0, hC⟩
theorem lks_r {I : mI} {m H M : Nat} {un : Bool} {cs : Nat → List Nat} {tx : Nat → List Int32} {h : Nat} (hH : H ≤ 8) (hh : h < H) (hS : rS I m H M un cs tx) : I (m + 6) h &&& ((nI 1 <<< (I m 1 &&& 31)) - nI 1) = nI (lkO cs H h) := by
  rw [(hS.2.2 h hh).2.1, hS.1.1, look_maskM hH (by omega)]
  unfold lkO
  rw [Nat.mod_mod_of_dvd _ (show 2 ^ H ∣ 256 from Nat.pow_dvd_pow 2 (n := 8) hH)]
theorem wi_of {k a b : Nat} (h1 : a ≤ k) (h2 : k ≤ b) (hb : b < 2 ^ 31) : (!decide (nI k < nI a) && !decide (nI b < nI k)) = true := by
  rw [decide_eq_false (by rw [nI_ltI (by omega) (by omega)]; omega), decide_eq_false (by rw [nI_ltI (by omega) (by omega)]; omega)]; rfl
theorem wi_no {x a b : Int32} (h : x < a ∨ b < x) : (!decide (x < a) && !decide (b < x)) = false := by
  rcases h with q | q
  · rw [decide_eq_true q]; rfl
  · rw [decide_eq_true q, Bool.not_true, Bool.and_false]
theorem bz_eq (x : Bool) : (if x = true then nI 1 else nI 0) = bz x := rfl
theorem two_of {k : Nat} (h : k < 2) : (decide (nI k = 0) || decide (nI k = nI 1)) = true := by
  rcases (show k = 0 ∨ k = 1 by omega) with q | q <;> rw [q] <;> rfl
theorem two_no {x : Int32} (h : (!decide (x < 0) && decide (x < nI 2)) = false) : (decide (x = 0) || decide (x = nI 1)) = false := by
  cases hq : (decide (x = 0) || decide (x = nI 1)) with
  | false => rfl
  | true =>
    rw [Bool.or_eq_true, decide_eq_true_eq, decide_eq_true_eq] at hq
    rcases hq with q | q <;> rw [q] at h <;> exact absurd h (by decide)


set_option maxHeartbeats 4000000 in
set_option maxRecDepth 100000 in
theorem q9_house (m : Nat) (y1 y2 : Int32) {t : Nat} {T : Nat → Nat} {fp : Int32} {rr : Nat → Int32} {H M : Nat} {un : Bool} {cs : Nat → List Nat} {tx : Nat → List Int32} {e : Lf} {im : Option Lf} {wk : Option (List Nat)} {n : Nat} {kd : mK} {I : mI} {J : mJ} {P : mP} (hC : RR m kd I P t T fp rr H M un cs tx e im wk) (hz : okZ t T H M cs e) (hx : (!decide (y1 < 0) && decide (y1 < nI H)) = false) : Ct yX10_house cX10_house 3 (some .int) 10 0 0 [.ref m, .int y1, .int y2] n kd I J P (pQ m n kd I J P (some (.int (nI 0))) 1 (RX m t T fp rr H M un cs tx e im wk)) := by
  refine ct_of 0 (by decide +kernel) (Nat.le_of_ble_eq_true rfl) rfl ?_
  refine r_aload_n dX10_house_0 rfl ?_
  refine r_iconst (v := nI 0) dX10_house_1 (by decide) ?_
  refine r_putI dX10_house_2 fl_X10_193 rfl rfl (kM_0 hC.1) ?_
  refine q_th hC (fun I hC h0 => ?_)
  have hC0 := hC
  have hz0 := hz
  obtain ⟨hM, hT, hSt, hLf, hIm, hWk⟩ := hC
  obtain ⟨okt, oks, okl⟩ := hz
  have hH8 : H ≤ 8 := oks.2.1
  have hM20 : 2 ≤ M ∧ M ≤ 20 := oks.1
  have hH : I m 1 = nI H := hSt.1.1
  have hMo : I m 2 = nI M := hSt.1.2.1
  refine r_aload_n dX10_house_5 rfl ?_
  refine r_iload_n dX10_house_6 rfl ?_
  refine r_virtE (c_X10_isHouse m (y1) hM h0) lk_X10_373 mc_X10_isHouse dX10_house_7 (kM_0 hM) (by decide) rfl rfl (Nat.le_of_ble_eq_true rfl) ?_
  rw [show (!decide (y1 < 0) && decide (y1 < I m 1)) = false from by rw [hH]; exact hx]
  refine r_if_eq (tgt := 27) dX10_house_10 (by decide) (fun _ => ?_) (fun hz => absurd (show _ from (by decide)) hz)
  refine r_iconst (v := nI 0) dX10_house_27 (by decide) ?_
  refine r_iret rfl dX10_house_28 ?_
  exact pQ.th hC0 am_is.mk


set_option maxHeartbeats 4000000 in
set_option maxRecDepth 100000 in
theorem q9_become (m : Nat) (y1 y2 y3 : Int32) {t : Nat} {T : Nat → Nat} {fp : Int32} {rr : Nat → Int32} {H M : Nat} {un : Bool} {cs : Nat → List Nat} {tx : Nat → List Int32} {e : Lf} {im : Option Lf} {wk : Option (List Nat)} {n : Nat} {kd : mK} {I : mI} {J : mJ} {P : mP} (hC : RR m kd I P t T fp rr H M un cs tx e im wk) (hz : okZ t T H M cs e) (hx : (!decide (y1 < 0) && decide (y1 < nI H)) = false) : Ct yX10_become cX10_become 5 (some .int) 10 0 0 [.ref m, .int y1, .int y2, .int y3] n kd I J P (pQ m n kd I J P (some (.int (nI 0))) 1 (RX m t T fp rr H M un cs tx e im wk)) := by
  refine ct_of 1 (by decide +kernel) (Nat.le_of_ble_eq_true rfl) rfl ?_
  refine r_aload_n dX10_become_0 rfl ?_
  refine r_iconst (v := nI 0) dX10_become_1 (by decide) ?_
  refine r_putI dX10_become_2 fl_X10_193 rfl rfl (kM_0 hC.1) ?_
  refine q_th hC (fun I hC h0 => ?_)
  have hC0 := hC
  have hz0 := hz
  obtain ⟨hM, hT, hSt, hLf, hIm, hWk⟩ := hC
  obtain ⟨okt, oks, okl⟩ := hz
  have hH8 : H ≤ 8 := oks.2.1
  have hM20 : 2 ≤ M ∧ M ≤ 20 := oks.1
  have hH : I m 1 = nI H := hSt.1.1
  have hMo : I m 2 = nI M := hSt.1.2.1
  refine r_aload_n dX10_become_5 rfl ?_
  refine r_iload_n dX10_become_6 rfl ?_
  refine r_virtE (c_X10_isHouse m (y1) hM h0) lk_X10_373 mc_X10_isHouse dX10_become_7 (kM_0 hM) (by decide) rfl rfl (Nat.le_of_ble_eq_true rfl) ?_
  rw [show (!decide (y1 < 0) && decide (y1 < I m 1)) = false from by rw [hH]; exact hx]
  refine r_if_eq (tgt := 21) dX10_become_10 (by decide) (fun _ => ?_) (fun hz => absurd (show _ from (by decide)) hz)
  refine r_iconst (v := nI 0) dX10_become_21 (by decide) ?_
  refine r_iret rfl dX10_become_22 ?_
  exact pQ.th hC0 am_is.mk


set_option maxHeartbeats 4000000 in
set_option maxRecDepth 100000 in
theorem q9_mute (m : Nat) (y1 y2 : Int32) {t : Nat} {T : Nat → Nat} {fp : Int32} {rr : Nat → Int32} {H M : Nat} {un : Bool} {cs : Nat → List Nat} {tx : Nat → List Int32} {e : Lf} {im : Option Lf} {wk : Option (List Nat)} {n : Nat} {kd : mK} {I : mI} {J : mJ} {P : mP} (hC : RR m kd I P t T fp rr H M un cs tx e im wk) (hz : okZ t T H M cs e) (hx : (!decide (y1 < 0) && decide (y1 < nI H)) = false) : Ct yX10_mute cX10_mute 3 (some .boolean) 10 0 0 [.ref m, .int y1, .int y2] n kd I J P (pQ m n kd I J P (some (.int (nI 0))) 1 (RX m t T fp rr H M un cs tx e im wk)) := by
  refine ct_of 0 (by decide +kernel) (Nat.le_of_ble_eq_true rfl) rfl ?_
  refine r_aload_n dX10_mute_0 rfl ?_
  refine r_iconst (v := nI 0) dX10_mute_1 (by decide) ?_
  refine r_putI dX10_mute_2 fl_X10_193 rfl rfl (kM_0 hC.1) ?_
  refine q_th hC (fun I hC h0 => ?_)
  have hC0 := hC
  have hz0 := hz
  obtain ⟨hM, hT, hSt, hLf, hIm, hWk⟩ := hC
  obtain ⟨okt, oks, okl⟩ := hz
  have hH8 : H ≤ 8 := oks.2.1
  have hM20 : 2 ≤ M ∧ M ≤ 20 := oks.1
  have hH : I m 1 = nI H := hSt.1.1
  have hMo : I m 2 = nI M := hSt.1.2.1
  refine r_aload_n dX10_mute_5 rfl ?_
  refine r_iload_n dX10_mute_6 rfl ?_
  refine r_virtE (c_X10_isHouse m (y1) hM h0) lk_X10_373 mc_X10_isHouse dX10_mute_7 (kM_0 hM) (by decide) rfl rfl (Nat.le_of_ble_eq_true rfl) ?_
  rw [show (!decide (y1 < 0) && decide (y1 < I m 1)) = false from by rw [hH]; exact hx]
  refine r_if_ne (tgt := 15) dX10_mute_10 (by decide) (fun hz => absurd (show _ from rfl) hz) (fun _ => ?_)
  refine r_iconst (v := nI 0) dX10_mute_13 (by decide) ?_
  refine r_zret rfl dX10_mute_14 (by first | exact Or.inl rfl | exact Or.inr rfl | assumption) ?_
  exact pQ.th hC0 am_is.mk


set_option maxHeartbeats 4000000 in
set_option maxRecDepth 100000 in
theorem q9_letter (m : Nat) (y1 y2 : Int32) {t : Nat} {T : Nat → Nat} {fp : Int32} {rr : Nat → Int32} {H M : Nat} {un : Bool} {cs : Nat → List Nat} {tx : Nat → List Int32} {e : Lf} {im : Option Lf} {wk : Option (List Nat)} {n : Nat} {kd : mK} {I : mI} {J : mJ} {P : mP} (hC : RR m kd I P t T fp rr H M un cs tx e im wk) (hz : okZ t T H M cs e) (hx : (!decide (y1 < 0) && decide (y1 < nI H)) = false) : Ct yX10_letter cX10_letter 3 (some .int) 10 0 0 [.ref m, .int y1, .int y2] n kd I J P (pQ m n kd I J P (some (.int (nI 0))) 1 (RX m t T fp rr H M un cs tx e im wk)) := by
  refine ct_of 0 (by decide +kernel) (Nat.le_of_ble_eq_true rfl) rfl ?_
  refine r_aload_n dX10_letter_0 rfl ?_
  refine r_iconst (v := nI 0) dX10_letter_1 (by decide) ?_
  refine r_putI dX10_letter_2 fl_X10_193 rfl rfl (kM_0 hC.1) ?_
  refine q_th hC (fun I hC h0 => ?_)
  have hC0 := hC
  have hz0 := hz
  obtain ⟨hM, hT, hSt, hLf, hIm, hWk⟩ := hC
  obtain ⟨okt, oks, okl⟩ := hz
  have hH8 : H ≤ 8 := oks.2.1
  have hM20 : 2 ≤ M ∧ M ≤ 20 := oks.1
  have hH : I m 1 = nI H := hSt.1.1
  have hMo : I m 2 = nI M := hSt.1.2.1
  refine r_aload_n dX10_letter_5 rfl ?_
  refine r_iload_n dX10_letter_6 rfl ?_
  refine r_virtE (c_X10_isHouse m (y1) hM h0) lk_X10_373 mc_X10_isHouse dX10_letter_7 (kM_0 hM) (by decide) rfl rfl (Nat.le_of_ble_eq_true rfl) ?_
  rw [show (!decide (y1 < 0) && decide (y1 < I m 1)) = false from by rw [hH]; exact hx]
  refine r_if_ne (tgt := 15) dX10_letter_10 (by decide) (fun hz => absurd (show _ from rfl) hz) (fun _ => ?_)
  refine r_iconst (v := nI 0) dX10_letter_13 (by decide) ?_
  refine r_iret rfl dX10_letter_14 ?_
  exact pQ.th hC0 am_is.mk


set_option maxHeartbeats 4000000 in
set_option maxRecDepth 100000 in
theorem q9_number (m : Nat) (y1 y2 : Int32) {t : Nat} {T : Nat → Nat} {fp : Int32} {rr : Nat → Int32} {H M : Nat} {un : Bool} {cs : Nat → List Nat} {tx : Nat → List Int32} {e : Lf} {im : Option Lf} {wk : Option (List Nat)} {n : Nat} {kd : mK} {I : mI} {J : mJ} {P : mP} (hC : RR m kd I P t T fp rr H M un cs tx e im wk) (hz : okZ t T H M cs e) (hx : (!decide (y2 < 0) && decide (y2 < nI H)) = false) : Ct yX10_number cX10_number 4 (some .int) 10 0 0 [.ref m, .int y1, .int y2] n kd I J P (pQ m n kd I J P (some (.int (nI 0))) 1 (RX m t T fp rr H M un cs tx e im wk)) := by
  refine ct_of 1 (by decide +kernel) (Nat.le_of_ble_eq_true rfl) rfl ?_
  refine r_aload_n dX10_number_0 rfl ?_
  refine r_iconst (v := nI 0) dX10_number_1 (by decide) ?_
  refine r_putI dX10_number_2 fl_X10_193 rfl rfl (kM_0 hC.1) ?_
  refine q_th hC (fun I hC h0 => ?_)
  have hC0 := hC
  have hz0 := hz
  obtain ⟨hM, hT, hSt, hLf, hIm, hWk⟩ := hC
  obtain ⟨okt, oks, okl⟩ := hz
  have hH8 : H ≤ 8 := oks.2.1
  have hM20 : 2 ≤ M ∧ M ≤ 20 := oks.1
  have hH : I m 1 = nI H := hSt.1.1
  have hMo : I m 2 = nI M := hSt.1.2.1
  refine r_aload_n dX10_number_5 rfl ?_
  refine r_iload_n dX10_number_6 rfl ?_
  refine r_virtE (c_X10_isHouse m (y2) hM h0) lk_X10_373 mc_X10_isHouse dX10_number_7 (kM_0 hM) (by decide) rfl rfl (Nat.le_of_ble_eq_true rfl) ?_
  rw [show (!decide (y2 < 0) && decide (y2 < I m 1)) = false from by rw [hH]; exact hx]
  refine r_if_ne (tgt := 15) dX10_number_10 (by decide) (fun hz => absurd (show _ from rfl) hz) (fun _ => ?_)
  refine r_iconst (v := nI 0) dX10_number_13 (by decide) ?_
  refine r_iret rfl dX10_number_14 ?_
  exact pQ.th hC0 am_is.mk


set_option maxHeartbeats 4000000 in
set_option maxRecDepth 100000 in
theorem q9_may (m : Nat) (y1 : Int32) {t : Nat} {T : Nat → Nat} {fp : Int32} {rr : Nat → Int32} {H M : Nat} {un : Bool} {cs : Nat → List Nat} {tx : Nat → List Int32} {e : Lf} {im : Option Lf} {wk : Option (List Nat)} {n : Nat} {kd : mK} {I : mI} {J : mJ} {P : mP} (hC : RR m kd I P t T fp rr H M un cs tx e im wk) (hz : okZ t T H M cs e) (hx : (!decide (y1 < 0) && decide (y1 < nI H)) = false) : Ct yX10_may cX10_may 2 (some .int) 10 0 0 [.ref m, .int y1] n kd I J P (pQ m n kd I J P (some (.int (nI 0))) 1 (RX m t T fp rr H M un cs tx e im wk)) := by
  refine ct_of 0 (by decide +kernel) (Nat.le_of_ble_eq_true rfl) rfl ?_
  refine r_aload_n dX10_may_0 rfl ?_
  refine r_iconst (v := nI 0) dX10_may_1 (by decide) ?_
  refine r_putI dX10_may_2 fl_X10_193 rfl rfl (kM_0 hC.1) ?_
  refine q_th hC (fun I hC h0 => ?_)
  have hC0 := hC
  have hz0 := hz
  obtain ⟨hM, hT, hSt, hLf, hIm, hWk⟩ := hC
  obtain ⟨okt, oks, okl⟩ := hz
  have hH8 : H ≤ 8 := oks.2.1
  have hM20 : 2 ≤ M ∧ M ≤ 20 := oks.1
  have hH : I m 1 = nI H := hSt.1.1
  have hMo : I m 2 = nI M := hSt.1.2.1
  refine r_aload_n dX10_may_5 rfl ?_
  refine r_iload_n dX10_may_6 rfl ?_
  refine r_virtE (c_X10_isHouse m (y1) hM h0) lk_X10_373 mc_X10_isHouse dX10_may_7 (kM_0 hM) (by decide) rfl rfl (Nat.le_of_ble_eq_true rfl) ?_
  rw [show (!decide (y1 < 0) && decide (y1 < I m 1)) = false from by rw [hH]; exact hx]
  refine r_if_ne (tgt := 15) dX10_may_10 (by decide) (fun hz => absurd (show _ from rfl) hz) (fun _ => ?_)
  refine r_iconst (v := nI 0) dX10_may_13 (by decide) ?_
  refine r_iret rfl dX10_may_14 ?_
  exact pQ.th hC0 am_is.mk


set_option maxHeartbeats 4000000 in
set_option maxRecDepth 100000 in
theorem q9_holds (m : Nat) (y1 : Int32) (y2 : Int64) {t : Nat} {T : Nat → Nat} {fp : Int32} {rr : Nat → Int32} {H M : Nat} {un : Bool} {cs : Nat → List Nat} {tx : Nat → List Int32} {e : Lf} {im : Option Lf} {wk : Option (List Nat)} {n : Nat} {kd : mK} {I : mI} {J : mJ} {P : mP} (hC : RR m kd I P t T fp rr H M un cs tx e im wk) (hz : okZ t T H M cs e) (hx : (!decide (y1 < 0) && decide (y1 < nI H)) = false) : Ct yX10_holds cX10_holds 5 (some .int) 10 0 0 [.ref m, .int y1, .long y2] n kd I J P (pQ m n kd I J P (some (.int (nI 0))) 1 (RX m t T fp rr H M un cs tx e im wk)) := by
  refine ct_of 1 (by decide +kernel) (Nat.le_of_ble_eq_true rfl) rfl ?_
  refine r_aload_n dX10_holds_0 rfl ?_
  refine r_iconst (v := nI 0) dX10_holds_1 (by decide) ?_
  refine r_putI dX10_holds_2 fl_X10_193 rfl rfl (kM_0 hC.1) ?_
  refine q_th hC (fun I hC h0 => ?_)
  have hC0 := hC
  have hz0 := hz
  obtain ⟨hM, hT, hSt, hLf, hIm, hWk⟩ := hC
  obtain ⟨okt, oks, okl⟩ := hz
  have hH8 : H ≤ 8 := oks.2.1
  have hM20 : 2 ≤ M ∧ M ≤ 20 := oks.1
  have hH : I m 1 = nI H := hSt.1.1
  have hMo : I m 2 = nI M := hSt.1.2.1
  refine r_aload_n dX10_holds_5 rfl ?_
  refine r_iload_n dX10_holds_6 rfl ?_
  refine r_virtE (c_X10_isHouse m (y1) hM h0) lk_X10_373 mc_X10_isHouse dX10_holds_7 (kM_0 hM) (by decide) rfl rfl (Nat.le_of_ble_eq_true rfl) ?_
  rw [show (!decide (y1 < 0) && decide (y1 < I m 1)) = false from by rw [hH]; exact hx]
  refine r_if_eq (tgt := 32) dX10_holds_10 (by decide) (fun _ => ?_) (fun hz => absurd (show _ from (by decide)) hz)
  refine r_iconst (v := nI 0) dX10_holds_32 (by decide) ?_
  refine r_iret rfl dX10_holds_33 ?_
  exact pQ.th hC0 am_is.mk


set_option maxHeartbeats 4000000 in
set_option maxRecDepth 100000 in
theorem q9_post (m : Nat) (y1 y2 : Int32) {t : Nat} {T : Nat → Nat} {fp : Int32} {rr : Nat → Int32} {H M : Nat} {un : Bool} {cs : Nat → List Nat} {tx : Nat → List Int32} {e : Lf} {im : Option Lf} {wk : Option (List Nat)} {n : Nat} {kd : mK} {I : mI} {J : mJ} {P : mP} (hC : RR m kd I P t T fp rr H M un cs tx e im wk) (hz : okZ t T H M cs e) (hx : (!decide (y1 < 0) && decide (y1 < nI H)) = false) : Ct yX10_post cX10_post 8 (some .int) 10 0 0 [.ref m, .int y1, .int y2] n kd I J P (pQ m n kd I J P (some (.int (nI 0))) 1 (RX m t T fp rr H M un cs tx e im wk)) := by
  refine ct_of 5 (by decide +kernel) (Nat.le_of_ble_eq_true rfl) rfl ?_
  refine r_aload_n dX10_post_0 rfl ?_
  refine r_iconst (v := nI 0) dX10_post_1 (by decide) ?_
  refine r_putI dX10_post_2 fl_X10_193 rfl rfl (kM_0 hC.1) ?_
  refine q_th hC (fun I hC h0 => ?_)
  have hC0 := hC
  have hz0 := hz
  obtain ⟨hM, hT, hSt, hLf, hIm, hWk⟩ := hC
  obtain ⟨okt, oks, okl⟩ := hz
  have hH8 : H ≤ 8 := oks.2.1
  have hM20 : 2 ≤ M ∧ M ≤ 20 := oks.1
  have hH : I m 1 = nI H := hSt.1.1
  have hMo : I m 2 = nI M := hSt.1.2.1
  refine r_aload_n dX10_post_5 rfl ?_
  refine r_iload_n dX10_post_6 rfl ?_
  refine r_virtE (c_X10_isHouse m (y1) hM h0) lk_X10_373 mc_X10_isHouse dX10_post_7 (kM_0 hM) (by decide) rfl rfl (Nat.le_of_ble_eq_true rfl) ?_
  rw [show (!decide (y1 < 0) && decide (y1 < I m 1)) = false from by rw [hH]; exact hx]
  refine r_if_eq (tgt := 30) dX10_post_10 (by decide) (fun _ => ?_) (fun hz => absurd (show _ from (by decide)) hz)
  refine r_iconst (v := nI 0) dX10_post_30 (by decide) ?_
  refine r_iret rfl dX10_post_31 ?_
  exact pQ.th hC0 am_is.mk


set_option maxHeartbeats 4000000 in
set_option maxRecDepth 100000 in
theorem q9_feud (m : Nat) (y1 y2 y3 : Int32) {t : Nat} {T : Nat → Nat} {fp : Int32} {rr : Nat → Int32} {H M : Nat} {un : Bool} {cs : Nat → List Nat} {tx : Nat → List Int32} {e : Lf} {im : Option Lf} {wk : Option (List Nat)} {n : Nat} {kd : mK} {I : mI} {J : mJ} {P : mP} (hC : RR m kd I P t T fp rr H M un cs tx e im wk) (hz : okZ t T H M cs e) (hx : (!decide (y1 < 0) && decide (y1 < nI H)) = false) : Ct yX10_feud cX10_feud 7 (some .int) 10 0 0 [.ref m, .int y1, .int y2, .int y3] n kd I J P (pQ m n kd I J P (some (.int (nI 0))) 1 (RX m t T fp rr H M un cs tx e im wk)) := by
  refine ct_of 3 (by decide +kernel) (Nat.le_of_ble_eq_true rfl) rfl ?_
  refine r_aload_n dX10_feud_0 rfl ?_
  refine r_iconst (v := nI 0) dX10_feud_1 (by decide) ?_
  refine r_putI dX10_feud_2 fl_X10_193 rfl rfl (kM_0 hC.1) ?_
  refine q_th hC (fun I hC h0 => ?_)
  have hC0 := hC
  have hz0 := hz
  obtain ⟨hM, hT, hSt, hLf, hIm, hWk⟩ := hC
  obtain ⟨okt, oks, okl⟩ := hz
  have hH8 : H ≤ 8 := oks.2.1
  have hM20 : 2 ≤ M ∧ M ≤ 20 := oks.1
  have hH : I m 1 = nI H := hSt.1.1
  have hMo : I m 2 = nI M := hSt.1.2.1
  refine r_aload_n dX10_feud_5 rfl ?_
  refine r_iload_n dX10_feud_6 rfl ?_
  refine r_virtE (c_X10_isHouse m (y1) hM h0) lk_X10_373 mc_X10_isHouse dX10_feud_7 (kM_0 hM) (by decide) rfl rfl (Nat.le_of_ble_eq_true rfl) ?_
  rw [show (!decide (y1 < 0) && decide (y1 < I m 1)) = false from by rw [hH]; exact hx]
  refine r_if_eq (tgt := 47) dX10_feud_10 (by decide) (fun _ => ?_) (fun hz => absurd (show _ from (by decide)) hz)
  refine r_iconst (v := nI 0) dX10_feud_47 (by decide) ?_
  refine r_iret rfl dX10_feud_48 ?_
  exact pQ.th hC0 am_is.mk


set_option maxHeartbeats 4000000 in
set_option maxRecDepth 100000 in
theorem q9_proof (m : Nat) (y1 : Int32) {t : Nat} {T : Nat → Nat} {fp : Int32} {rr : Nat → Int32} {H M : Nat} {un : Bool} {cs : Nat → List Nat} {tx : Nat → List Int32} {e : Lf} {im : Option Lf} {wk : Option (List Nat)} {n : Nat} {kd : mK} {I : mI} {J : mJ} {P : mP} (hC : RR m kd I P t T fp rr H M un cs tx e im wk) (hz : okZ t T H M cs e) (hx : (!decide (y1 < 0) && decide (y1 < nI H)) = false) : Ct yX10_proof cX10_proof 6 (some .int) 10 0 0 [.ref m, .int y1] n kd I J P (pQ m n kd I J P (some (.int (nI 0))) 1 (RX m t T fp rr H M un cs tx e im wk)) := by
  refine ct_of 4 (by decide +kernel) (Nat.le_of_ble_eq_true rfl) rfl ?_
  refine r_aload_n dX10_proof_0 rfl ?_
  refine r_iconst (v := nI 0) dX10_proof_1 (by decide) ?_
  refine r_putI dX10_proof_2 fl_X10_193 rfl rfl (kM_0 hC.1) ?_
  refine q_th hC (fun I hC h0 => ?_)
  have hC0 := hC
  have hz0 := hz
  obtain ⟨hM, hT, hSt, hLf, hIm, hWk⟩ := hC
  obtain ⟨okt, oks, okl⟩ := hz
  have hH8 : H ≤ 8 := oks.2.1
  have hM20 : 2 ≤ M ∧ M ≤ 20 := oks.1
  have hH : I m 1 = nI H := hSt.1.1
  have hMo : I m 2 = nI M := hSt.1.2.1
  refine r_aload_n dX10_proof_5 rfl ?_
  refine r_iload_n dX10_proof_6 rfl ?_
  refine r_virtE (c_X10_isHouse m (y1) hM h0) lk_X10_373 mc_X10_isHouse dX10_proof_7 (kM_0 hM) (by decide) rfl rfl (Nat.le_of_ble_eq_true rfl) ?_
  rw [show (!decide (y1 < 0) && decide (y1 < I m 1)) = false from by rw [hH]; exact hx]
  refine r_if_ne (tgt := 15) dX10_proof_10 (by decide) (fun hz => absurd (show _ from rfl) hz) (fun _ => ?_)
  refine r_iconst (v := nI 0) dX10_proof_13 (by decide) ?_
  refine r_iret rfl dX10_proof_14 ?_
  exact pQ.th hC0 am_is.mk


set_option maxHeartbeats 4000000 in
set_option maxRecDepth 100000 in
theorem q9_changed (m : Nat) (y1 y2 y3 y4 : Int32) {t : Nat} {T : Nat → Nat} {fp : Int32} {rr : Nat → Int32} {H M : Nat} {un : Bool} {cs : Nat → List Nat} {tx : Nat → List Int32} {e : Lf} {im : Option Lf} {wk : Option (List Nat)} {n : Nat} {kd : mK} {I : mI} {J : mJ} {P : mP} (hC : RR m kd I P t T fp rr H M un cs tx e im wk) (hz : okZ t T H M cs e) (hx : (!decide (y1 < 0) && decide (y1 < nI H)) = false) : Ct yX10_changed cX10_changed 11 (some .int) 10 0 0 [.ref m, .int y1, .int y2, .int y3, .int y4] n kd I J P (pQ m n kd I J P (some (.int (nI 0))) 1 (RX m t T fp rr H M un cs tx e im wk)) := by
  refine ct_of 6 (by decide +kernel) (Nat.le_of_ble_eq_true rfl) rfl ?_
  refine r_aload_n dX10_changed_0 rfl ?_
  refine r_iconst (v := nI 0) dX10_changed_1 (by decide) ?_
  refine r_putI dX10_changed_2 fl_X10_193 rfl rfl (kM_0 hC.1) ?_
  refine q_th hC (fun I hC h0 => ?_)
  have hC0 := hC
  have hz0 := hz
  obtain ⟨hM, hT, hSt, hLf, hIm, hWk⟩ := hC
  obtain ⟨okt, oks, okl⟩ := hz
  have hH8 : H ≤ 8 := oks.2.1
  have hM20 : 2 ≤ M ∧ M ≤ 20 := oks.1
  have hH : I m 1 = nI H := hSt.1.1
  have hMo : I m 2 = nI M := hSt.1.2.1
  refine r_aload_n dX10_changed_5 rfl ?_
  refine r_iload_n dX10_changed_6 rfl ?_
  refine r_virtE (c_X10_isHouse m (y1) hM h0) lk_X10_373 mc_X10_isHouse dX10_changed_7 (kM_0 hM) (by decide) rfl rfl (Nat.le_of_ble_eq_true rfl) ?_
  rw [show (!decide (y1 < 0) && decide (y1 < I m 1)) = false from by rw [hH]; exact hx]
  refine r_if_eq (tgt := 45) dX10_changed_10 (by decide) (fun _ => ?_) (fun hz => absurd (show _ from (by decide)) hz)
  refine r_iconst (v := nI 0) dX10_changed_45 (by decide) ?_
  refine r_iret rfl dX10_changed_46 ?_
  exact pQ.th hC0 am_is.mk


set_option maxHeartbeats 4000000 in
set_option maxRecDepth 100000 in
theorem q9_ring (m : Nat) (y1 y2 : Int32) {t : Nat} {T : Nat → Nat} {fp : Int32} {rr : Nat → Int32} {H M : Nat} {un : Bool} {cs : Nat → List Nat} {tx : Nat → List Int32} {e : Lf} {im : Option Lf} {wk : Option (List Nat)} {n : Nat} {kd : mK} {I : mI} {J : mJ} {P : mP} (hC : RR m kd I P t T fp rr H M un cs tx e im wk) (hz : okZ t T H M cs e) (hx : (!decide (y1 < 0) && decide (y1 < nI H)) = false) : Ct yX10_ring cX10_ring 3 (some .int) 10 0 0 [.ref m, .int y1, .int y2] n kd I J P (pQ m n kd I J P (some (.int (nI 0))) 1 (RX m t T fp rr H M un cs tx e im wk)) := by
  refine ct_of 0 (by decide +kernel) (Nat.le_of_ble_eq_true rfl) rfl ?_
  refine r_aload_n dX10_ring_0 rfl ?_
  refine r_iconst (v := nI 0) dX10_ring_1 (by decide) ?_
  refine r_putI dX10_ring_2 fl_X10_193 rfl rfl (kM_0 hC.1) ?_
  refine q_th hC (fun I hC h0 => ?_)
  have hC0 := hC
  have hz0 := hz
  obtain ⟨hM, hT, hSt, hLf, hIm, hWk⟩ := hC
  obtain ⟨okt, oks, okl⟩ := hz
  have hH8 : H ≤ 8 := oks.2.1
  have hM20 : 2 ≤ M ∧ M ≤ 20 := oks.1
  have hH : I m 1 = nI H := hSt.1.1
  have hMo : I m 2 = nI M := hSt.1.2.1
  refine r_aload_n dX10_ring_5 rfl ?_
  refine r_iload_n dX10_ring_6 rfl ?_
  refine r_virtE (c_X10_isHouse m (y1) hM h0) lk_X10_373 mc_X10_isHouse dX10_ring_7 (kM_0 hM) (by decide) rfl rfl (Nat.le_of_ble_eq_true rfl) ?_
  rw [show (!decide (y1 < 0) && decide (y1 < I m 1)) = false from by rw [hH]; exact hx]
  refine r_if_eq (tgt := 21) dX10_ring_10 (by decide) (fun _ => ?_) (fun hz => absurd (show _ from (by decide)) hz)
  refine r_iconst (v := nI 0) dX10_ring_21 (by decide) ?_
  refine r_iret rfl dX10_ring_22 ?_
  exact pQ.th hC0 am_is.mk


set_option maxHeartbeats 4000000 in
set_option maxRecDepth 100000 in
theorem q9_left (m : Nat) (y1 y2 : Int32) {t : Nat} {T : Nat → Nat} {fp : Int32} {rr : Nat → Int32} {H M : Nat} {un : Bool} {cs : Nat → List Nat} {tx : Nat → List Int32} {e : Lf} {im : Option Lf} {wk : Option (List Nat)} {n : Nat} {kd : mK} {I : mI} {J : mJ} {P : mP} (hC : RR m kd I P t T fp rr H M un cs tx e im wk) (hz : okZ t T H M cs e) (hx : (!decide (y1 < 0) && decide (y1 < nI H)) = false) : Ct yX10_left cX10_left 3 (some .int) 10 0 0 [.ref m, .int y1, .int y2] n kd I J P (pQ m n kd I J P (some (.int (nI 0))) 1 (RX m t T fp rr H M un cs tx e im wk)) := by
  refine ct_of 0 (by decide +kernel) (Nat.le_of_ble_eq_true rfl) rfl ?_
  refine r_aload_n dX10_left_0 rfl ?_
  refine r_iconst (v := nI 0) dX10_left_1 (by decide) ?_
  refine r_putI dX10_left_2 fl_X10_193 rfl rfl (kM_0 hC.1) ?_
  refine q_th hC (fun I hC h0 => ?_)
  have hC0 := hC
  have hz0 := hz
  obtain ⟨hM, hT, hSt, hLf, hIm, hWk⟩ := hC
  obtain ⟨okt, oks, okl⟩ := hz
  have hH8 : H ≤ 8 := oks.2.1
  have hM20 : 2 ≤ M ∧ M ≤ 20 := oks.1
  have hH : I m 1 = nI H := hSt.1.1
  have hMo : I m 2 = nI M := hSt.1.2.1
  refine r_aload_n dX10_left_5 rfl ?_
  refine r_iload_n dX10_left_6 rfl ?_
  refine r_virtE (c_X10_isHouse m (y1) hM h0) lk_X10_373 mc_X10_isHouse dX10_left_7 (kM_0 hM) (by decide) rfl rfl (Nat.le_of_ble_eq_true rfl) ?_
  rw [show (!decide (y1 < 0) && decide (y1 < I m 1)) = false from by rw [hH]; exact hx]
  refine r_if_eq (tgt := 30) dX10_left_10 (by decide) (fun _ => ?_) (fun hz => absurd (show _ from (by decide)) hz)
  refine r_iconst (v := nI 0) dX10_left_30 (by decide) ?_
  refine r_iret rfl dX10_left_31 ?_
  exact pQ.th hC0 am_is.mk


set_option maxHeartbeats 4000000 in
set_option maxRecDepth 100000 in
theorem q9_look (m : Nat) (y1 y2 : Int32) {t : Nat} {T : Nat → Nat} {fp : Int32} {rr : Nat → Int32} {H M : Nat} {un : Bool} {cs : Nat → List Nat} {tx : Nat → List Int32} {e : Lf} {im : Option Lf} {wk : Option (List Nat)} {n : Nat} {kd : mK} {I : mI} {J : mJ} {P : mP} (hC : RR m kd I P t T fp rr H M un cs tx e im wk) (hz : okZ t T H M cs e) (hx : (!decide (y1 < 0) && decide (y1 < nI H)) = false) : Ct yX10_look cX10_look 8 (some .int) 10 0 0 [.ref m, .int y1, .int y2] n kd I J P (pQ m n kd I J P (some (.int (nI 0))) 1 (RX m t T fp rr H M un cs tx e im wk)) := by
  refine ct_of 5 (by decide +kernel) (Nat.le_of_ble_eq_true rfl) rfl ?_
  refine r_aload_n dX10_look_0 rfl ?_
  refine r_iconst (v := nI 0) dX10_look_1 (by decide) ?_
  refine r_putI dX10_look_2 fl_X10_193 rfl rfl (kM_0 hC.1) ?_
  refine q_th hC (fun I hC h0 => ?_)
  have hC0 := hC
  have hz0 := hz
  obtain ⟨hM, hT, hSt, hLf, hIm, hWk⟩ := hC
  obtain ⟨okt, oks, okl⟩ := hz
  have hH8 : H ≤ 8 := oks.2.1
  have hM20 : 2 ≤ M ∧ M ≤ 20 := oks.1
  have hH : I m 1 = nI H := hSt.1.1
  have hMo : I m 2 = nI M := hSt.1.2.1
  refine r_aload_n dX10_look_5 rfl ?_
  refine r_iload_n dX10_look_6 rfl ?_
  refine r_virtE (c_X10_isHouse m (y1) hM h0) lk_X10_373 mc_X10_isHouse dX10_look_7 (kM_0 hM) (by decide) rfl rfl (Nat.le_of_ble_eq_true rfl) ?_
  rw [show (!decide (y1 < 0) && decide (y1 < I m 1)) = false from by rw [hH]; exact hx]
  refine r_if_eq (tgt := 27) dX10_look_10 (by decide) (fun _ => ?_) (fun hz => absurd (show _ from (by decide)) hz)
  refine r_iconst (v := nI 0) dX10_look_27 (by decide) ?_
  refine r_iret rfl dX10_look_28 ?_
  exact pQ.th hC0 am_is.mk

set_option maxHeartbeats 4000000 in
set_option maxRecDepth 100000 in
theorem q_house_0 (m : Nat) (h : Nat) {t : Nat} {T : Nat → Nat} {fp : Int32} {rr : Nat → Int32} {H M : Nat} {un : Bool} {cs : Nat → List Nat} {tx : Nat → List Int32} {e : Lf} {im : Option Lf} {wk : Option (List Nat)} {n : Nat} {kd : mK} {I : mI} {J : mJ} {P : mP} (hC : RR m kd I P t T fp rr H M un cs tx e im wk) (hz : okZ t T H M cs e) (hh : h < H) : Ct yX10_house cX10_house 3 (some .int) 10 0 0 [.ref m, .int (nI h), .int (nI 0)] n kd I J P (pQ m n kd I J P (some (.int (hsV H cs e h 0))) 0 (RX m t T fp rr H M un cs tx e im wk)) := by
  refine ct_of 0 (by decide +kernel) (Nat.le_of_ble_eq_true rfl) rfl ?_
  refine r_aload_n dX10_house_0 rfl ?_
  refine r_iconst (v := nI 0) dX10_house_1 (by decide) ?_
  refine r_putI dX10_house_2 fl_X10_193 rfl rfl (kM_0 hC.1) ?_
  refine q_th hC (fun I hC h0 => ?_)
  have hC0 := hC
  have hz0 := hz
  obtain ⟨hM, hT, hSt, hLf, hIm, hWk⟩ := hC
  obtain ⟨okt, oks, okl⟩ := hz
  have hH8 : H ≤ 8 := oks.2.1
  have hM20 : 2 ≤ M ∧ M ≤ 20 := oks.1
  have hH : I m 1 = nI H := hSt.1.1
  have hMo : I m 2 = nI M := hSt.1.2.1
  refine r_aload_n dX10_house_5 rfl ?_
  refine r_iload_n dX10_house_6 rfl ?_
  refine r_virtE (c_X10_isHouse m (nI h) hM h0) lk_X10_373 mc_X10_isHouse dX10_house_7 (kM_0 hM) (by decide) rfl rfl (Nat.le_of_ble_eq_true rfl) ?_
  rw [show (!decide (nI h < 0) && decide (nI h < I m 1)) = true from by rw [hH]; exact (isH_of hh (by omega)), thM_ok]
  refine r_if_eq (tgt := 27) dX10_house_10 (by decide) (fun hz => absurd hz (show ¬ _ from (by decide))) (fun _ => ?_)
  refine r_aload_n dX10_house_13 rfl ?_
  refine r_iload_n dX10_house_14 rfl ?_
  refine r_iconst (v := nI 0) dX10_house_15 (by decide) ?_
  refine r_iconst (v := nI 4) dX10_house_16 (by decide) ?_
  refine r_statE (c_X10_within (nI 0) (nI 0) (nI 4)) lk_X10_369 mc_X10_within dX10_house_17 (by decide) rfl rfl (Nat.le_of_ble_eq_true rfl) ?_
  rw [show (!decide (nI 0 < nI 0) && !decide (nI 4 < nI 0)) = true from wi_of (by decide) (by decide) (by decide)]
  refine r_iconst (v := nI 1) dX10_house_20 (by decide) ?_
  refine r_virtE (c_X10_right m true (nI 1) hM h0 (by decide)) lk_X10_343 mc_X10_right dX10_house_21 (kM_0 hM) (by decide) rfl rfl (Nat.le_of_ble_eq_true rfl) ?_
  rw [thM_ok]
  refine r_if_ne (tgt := 29) dX10_house_24 (by decide) (fun _ => ?_) (fun hz => absurd hz (show ¬ _ from (by decide)))
  refine r_iload_n dX10_house_29 rfl ?_
  refine r_if_ne (tgt := 42) dX10_house_30 (by decide) (fun hz => absurd (show _ from rfl) hz) (fun _ => ?_)
  refine r_aload_n dX10_house_33 rfl ?_
  refine r_getR dX10_house_34 fl_X10_13 rfl (kM_0 hM) (pM_4 hM) ?_
  refine r_iload_n dX10_house_37 rfl ?_
  refine r_iald dX10_house_38 (aM_4 hM) (nI_in8 8 (by omega) (by decide)) (nI_clamp (by omega)) ?_
  rw [(hLf.1 h hh).1]
  refine r_goto (tgt := 102) dX10_house_39 (by decide) ?_
  refine r_iret rfl dX10_house_102 ?_
  exact RR.same h0 hC0

set_option maxHeartbeats 4000000 in
set_option maxRecDepth 100000 in
theorem q_house_1 (m : Nat) (h : Nat) {t : Nat} {T : Nat → Nat} {fp : Int32} {rr : Nat → Int32} {H M : Nat} {un : Bool} {cs : Nat → List Nat} {tx : Nat → List Int32} {e : Lf} {im : Option Lf} {wk : Option (List Nat)} {n : Nat} {kd : mK} {I : mI} {J : mJ} {P : mP} (hC : RR m kd I P t T fp rr H M un cs tx e im wk) (hz : okZ t T H M cs e) (hh : h < H) : Ct yX10_house cX10_house 3 (some .int) 10 0 0 [.ref m, .int (nI h), .int (nI 1)] n kd I J P (pQ m n kd I J P (some (.int (hsV H cs e h 1))) 0 (RX m t T fp rr H M un cs tx e im wk)) := by
  refine ct_of 0 (by decide +kernel) (Nat.le_of_ble_eq_true rfl) rfl ?_
  refine r_aload_n dX10_house_0 rfl ?_
  refine r_iconst (v := nI 0) dX10_house_1 (by decide) ?_
  refine r_putI dX10_house_2 fl_X10_193 rfl rfl (kM_0 hC.1) ?_
  refine q_th hC (fun I hC h0 => ?_)
  have hC0 := hC
  have hz0 := hz
  obtain ⟨hM, hT, hSt, hLf, hIm, hWk⟩ := hC
  obtain ⟨okt, oks, okl⟩ := hz
  have hH8 : H ≤ 8 := oks.2.1
  have hM20 : 2 ≤ M ∧ M ≤ 20 := oks.1
  have hH : I m 1 = nI H := hSt.1.1
  have hMo : I m 2 = nI M := hSt.1.2.1
  refine r_aload_n dX10_house_5 rfl ?_
  refine r_iload_n dX10_house_6 rfl ?_
  refine r_virtE (c_X10_isHouse m (nI h) hM h0) lk_X10_373 mc_X10_isHouse dX10_house_7 (kM_0 hM) (by decide) rfl rfl (Nat.le_of_ble_eq_true rfl) ?_
  rw [show (!decide (nI h < 0) && decide (nI h < I m 1)) = true from by rw [hH]; exact (isH_of hh (by omega)), thM_ok]
  refine r_if_eq (tgt := 27) dX10_house_10 (by decide) (fun hz => absurd hz (show ¬ _ from (by decide))) (fun _ => ?_)
  refine r_aload_n dX10_house_13 rfl ?_
  refine r_iload_n dX10_house_14 rfl ?_
  refine r_iconst (v := nI 0) dX10_house_15 (by decide) ?_
  refine r_iconst (v := nI 4) dX10_house_16 (by decide) ?_
  refine r_statE (c_X10_within (nI 1) (nI 0) (nI 4)) lk_X10_369 mc_X10_within dX10_house_17 (by decide) rfl rfl (Nat.le_of_ble_eq_true rfl) ?_
  rw [show (!decide (nI 1 < nI 0) && !decide (nI 4 < nI 1)) = true from wi_of (by decide) (by decide) (by decide)]
  refine r_iconst (v := nI 1) dX10_house_20 (by decide) ?_
  refine r_virtE (c_X10_right m true (nI 1) hM h0 (by decide)) lk_X10_343 mc_X10_right dX10_house_21 (kM_0 hM) (by decide) rfl rfl (Nat.le_of_ble_eq_true rfl) ?_
  rw [thM_ok]
  refine r_if_ne (tgt := 29) dX10_house_24 (by decide) (fun _ => ?_) (fun hz => absurd hz (show ¬ _ from (by decide)))
  refine r_iload_n dX10_house_29 rfl ?_
  refine r_if_ne (tgt := 42) dX10_house_30 (by decide) (fun _ => ?_) (fun hz => absurd hz (show ¬ _ from (by decide)))
  refine r_iload_n dX10_house_42 rfl ?_
  refine r_iconst (v := nI 1) dX10_house_43 (by decide) ?_
  refine r_icmp_ne (tgt := 56) dX10_house_44 (by decide) (fun hz => absurd (show _ from rfl) hz) (fun _ => ?_)
  refine r_aload_n dX10_house_47 rfl ?_
  refine r_getR dX10_house_48 fl_X10_17 rfl (kM_0 hM) (pM_5 hM) ?_
  refine r_iload_n dX10_house_51 rfl ?_
  refine r_iald dX10_house_52 (aM_5 hM) (nI_in8 8 (by omega) (by decide)) (nI_clamp (by omega)) ?_
  rw [(hLf.1 h hh).2.1]
  refine r_goto (tgt := 102) dX10_house_53 (by decide) ?_
  refine r_iret rfl dX10_house_102 ?_
  exact RR.same h0 hC0

set_option maxHeartbeats 4000000 in
set_option maxRecDepth 100000 in
theorem q_house_2 (m : Nat) (h : Nat) {t : Nat} {T : Nat → Nat} {fp : Int32} {rr : Nat → Int32} {H M : Nat} {un : Bool} {cs : Nat → List Nat} {tx : Nat → List Int32} {e : Lf} {im : Option Lf} {wk : Option (List Nat)} {n : Nat} {kd : mK} {I : mI} {J : mJ} {P : mP} (hC : RR m kd I P t T fp rr H M un cs tx e im wk) (hz : okZ t T H M cs e) (hh : h < H) : Ct yX10_house cX10_house 3 (some .int) 10 0 0 [.ref m, .int (nI h), .int (nI 2)] n kd I J P (pQ m n kd I J P (some (.int (hsV H cs e h 2))) 0 (RX m t T fp rr H M un cs tx e im wk)) := by
  refine ct_of 0 (by decide +kernel) (Nat.le_of_ble_eq_true rfl) rfl ?_
  refine r_aload_n dX10_house_0 rfl ?_
  refine r_iconst (v := nI 0) dX10_house_1 (by decide) ?_
  refine r_putI dX10_house_2 fl_X10_193 rfl rfl (kM_0 hC.1) ?_
  refine q_th hC (fun I hC h0 => ?_)
  have hC0 := hC
  have hz0 := hz
  obtain ⟨hM, hT, hSt, hLf, hIm, hWk⟩ := hC
  obtain ⟨okt, oks, okl⟩ := hz
  have hH8 : H ≤ 8 := oks.2.1
  have hM20 : 2 ≤ M ∧ M ≤ 20 := oks.1
  have hH : I m 1 = nI H := hSt.1.1
  have hMo : I m 2 = nI M := hSt.1.2.1
  have cw : (if cs h = [] then nI 0 else nI 1) = bz (!(cs h).isEmpty) := by cases cs h <;> rfl
  refine r_aload_n dX10_house_5 rfl ?_
  refine r_iload_n dX10_house_6 rfl ?_
  refine r_virtE (c_X10_isHouse m (nI h) hM h0) lk_X10_373 mc_X10_isHouse dX10_house_7 (kM_0 hM) (by decide) rfl rfl (Nat.le_of_ble_eq_true rfl) ?_
  rw [show (!decide (nI h < 0) && decide (nI h < I m 1)) = true from by rw [hH]; exact (isH_of hh (by omega)), thM_ok]
  refine r_if_eq (tgt := 27) dX10_house_10 (by decide) (fun hz => absurd hz (show ¬ _ from (by decide))) (fun _ => ?_)
  refine r_aload_n dX10_house_13 rfl ?_
  refine r_iload_n dX10_house_14 rfl ?_
  refine r_iconst (v := nI 0) dX10_house_15 (by decide) ?_
  refine r_iconst (v := nI 4) dX10_house_16 (by decide) ?_
  refine r_statE (c_X10_within (nI 2) (nI 0) (nI 4)) lk_X10_369 mc_X10_within dX10_house_17 (by decide) rfl rfl (Nat.le_of_ble_eq_true rfl) ?_
  rw [show (!decide (nI 2 < nI 0) && !decide (nI 4 < nI 2)) = true from wi_of (by decide) (by decide) (by decide)]
  refine r_iconst (v := nI 1) dX10_house_20 (by decide) ?_
  refine r_virtE (c_X10_right m true (nI 1) hM h0 (by decide)) lk_X10_343 mc_X10_right dX10_house_21 (kM_0 hM) (by decide) rfl rfl (Nat.le_of_ble_eq_true rfl) ?_
  rw [thM_ok]
  refine r_if_ne (tgt := 29) dX10_house_24 (by decide) (fun _ => ?_) (fun hz => absurd hz (show ¬ _ from (by decide)))
  refine r_iload_n dX10_house_29 rfl ?_
  refine r_if_ne (tgt := 42) dX10_house_30 (by decide) (fun _ => ?_) (fun hz => absurd hz (show ¬ _ from (by decide)))
  refine r_iload_n dX10_house_42 rfl ?_
  refine r_iconst (v := nI 1) dX10_house_43 (by decide) ?_
  refine r_icmp_ne (tgt := 56) dX10_house_44 (by decide) (fun _ => ?_) (fun hz => absurd hz (show ¬ _ from (by decide)))
  refine r_iload_n dX10_house_56 rfl ?_
  refine r_iconst (v := nI 2) dX10_house_57 (by decide) ?_
  refine r_icmp_ne (tgt := 70) dX10_house_58 (by decide) (fun hz => absurd (show _ from rfl) hz) (fun _ => ?_)
  refine r_aload_n dX10_house_61 rfl ?_
  refine r_getR dX10_house_62 fl_X10_20 rfl (kM_0 hM) (pM_6 hM) ?_
  refine r_iload_n dX10_house_65 rfl ?_
  refine r_iald dX10_house_66 (aM_6 hM) (nI_in8 8 (by omega) (by decide)) (nI_clamp (by omega)) ?_
  rw [(hSt.2.2 h hh).1]
  rw [cw]
  refine r_goto (tgt := 102) dX10_house_67 (by decide) ?_
  refine r_iret rfl dX10_house_102 ?_
  exact RR.same h0 hC0

set_option maxHeartbeats 4000000 in
set_option maxRecDepth 100000 in
theorem q_house_3 (m : Nat) (h : Nat) {t : Nat} {T : Nat → Nat} {fp : Int32} {rr : Nat → Int32} {H M : Nat} {un : Bool} {cs : Nat → List Nat} {tx : Nat → List Int32} {e : Lf} {im : Option Lf} {wk : Option (List Nat)} {n : Nat} {kd : mK} {I : mI} {J : mJ} {P : mP} (hC : RR m kd I P t T fp rr H M un cs tx e im wk) (hz : okZ t T H M cs e) (hh : h < H) : Ct yX10_house cX10_house 3 (some .int) 10 0 0 [.ref m, .int (nI h), .int (nI 3)] n kd I J P (pQ m n kd I J P (some (.int (hsV H cs e h 3))) 0 (RX m t T fp rr H M un cs tx e im wk)) := by
  refine ct_of 0 (by decide +kernel) (Nat.le_of_ble_eq_true rfl) rfl ?_
  refine r_aload_n dX10_house_0 rfl ?_
  refine r_iconst (v := nI 0) dX10_house_1 (by decide) ?_
  refine r_putI dX10_house_2 fl_X10_193 rfl rfl (kM_0 hC.1) ?_
  refine q_th hC (fun I hC h0 => ?_)
  have hC0 := hC
  have hz0 := hz
  obtain ⟨hM, hT, hSt, hLf, hIm, hWk⟩ := hC
  obtain ⟨okt, oks, okl⟩ := hz
  have hH8 : H ≤ 8 := oks.2.1
  have hM20 : 2 ≤ M ∧ M ≤ 20 := oks.1
  have hH : I m 1 = nI H := hSt.1.1
  have hMo : I m 2 = nI M := hSt.1.2.1
  refine r_aload_n dX10_house_5 rfl ?_
  refine r_iload_n dX10_house_6 rfl ?_
  refine r_virtE (c_X10_isHouse m (nI h) hM h0) lk_X10_373 mc_X10_isHouse dX10_house_7 (kM_0 hM) (by decide) rfl rfl (Nat.le_of_ble_eq_true rfl) ?_
  rw [show (!decide (nI h < 0) && decide (nI h < I m 1)) = true from by rw [hH]; exact (isH_of hh (by omega)), thM_ok]
  refine r_if_eq (tgt := 27) dX10_house_10 (by decide) (fun hz => absurd hz (show ¬ _ from (by decide))) (fun _ => ?_)
  refine r_aload_n dX10_house_13 rfl ?_
  refine r_iload_n dX10_house_14 rfl ?_
  refine r_iconst (v := nI 0) dX10_house_15 (by decide) ?_
  refine r_iconst (v := nI 4) dX10_house_16 (by decide) ?_
  refine r_statE (c_X10_within (nI 3) (nI 0) (nI 4)) lk_X10_369 mc_X10_within dX10_house_17 (by decide) rfl rfl (Nat.le_of_ble_eq_true rfl) ?_
  rw [show (!decide (nI 3 < nI 0) && !decide (nI 4 < nI 3)) = true from wi_of (by decide) (by decide) (by decide)]
  refine r_iconst (v := nI 1) dX10_house_20 (by decide) ?_
  refine r_virtE (c_X10_right m true (nI 1) hM h0 (by decide)) lk_X10_343 mc_X10_right dX10_house_21 (kM_0 hM) (by decide) rfl rfl (Nat.le_of_ble_eq_true rfl) ?_
  rw [thM_ok]
  refine r_if_ne (tgt := 29) dX10_house_24 (by decide) (fun _ => ?_) (fun hz => absurd hz (show ¬ _ from (by decide)))
  refine r_iload_n dX10_house_29 rfl ?_
  refine r_if_ne (tgt := 42) dX10_house_30 (by decide) (fun _ => ?_) (fun hz => absurd hz (show ¬ _ from (by decide)))
  refine r_iload_n dX10_house_42 rfl ?_
  refine r_iconst (v := nI 1) dX10_house_43 (by decide) ?_
  refine r_icmp_ne (tgt := 56) dX10_house_44 (by decide) (fun _ => ?_) (fun hz => absurd hz (show ¬ _ from (by decide)))
  refine r_iload_n dX10_house_56 rfl ?_
  refine r_iconst (v := nI 2) dX10_house_57 (by decide) ?_
  refine r_icmp_ne (tgt := 70) dX10_house_58 (by decide) (fun _ => ?_) (fun hz => absurd hz (show ¬ _ from (by decide)))
  refine r_iload_n dX10_house_70 rfl ?_
  refine r_iconst (v := nI 3) dX10_house_71 (by decide) ?_
  refine r_icmp_ne (tgt := 84) dX10_house_72 (by decide) (fun hz => absurd (show _ from rfl) hz) (fun _ => ?_)
  refine r_aload_n dX10_house_75 rfl ?_
  refine r_getR dX10_house_76 fl_X10_23 rfl (kM_0 hM) (pM_7 hM) ?_
  refine r_iload_n dX10_house_79 rfl ?_
  refine r_iald dX10_house_80 (aM_7 hM) (nI_in8 8 (by omega) (by decide)) (nI_clamp (by omega)) ?_
  rw [(hLf.1 h hh).2.2]
  refine r_goto (tgt := 102) dX10_house_81 (by decide) ?_
  refine r_iret rfl dX10_house_102 ?_
  exact RR.same h0 hC0

set_option maxHeartbeats 4000000 in
set_option maxRecDepth 100000 in
theorem q_house_4 (m : Nat) (h : Nat) {t : Nat} {T : Nat → Nat} {fp : Int32} {rr : Nat → Int32} {H M : Nat} {un : Bool} {cs : Nat → List Nat} {tx : Nat → List Int32} {e : Lf} {im : Option Lf} {wk : Option (List Nat)} {n : Nat} {kd : mK} {I : mI} {J : mJ} {P : mP} (hC : RR m kd I P t T fp rr H M un cs tx e im wk) (hz : okZ t T H M cs e) (hh : h < H) : Ct yX10_house cX10_house 3 (some .int) 10 0 0 [.ref m, .int (nI h), .int (nI 4)] n kd I J P (pQ m n kd I J P (some (.int (hsV H cs e h 4))) 0 (RX m t T fp rr H M un cs tx e im wk)) := by
  refine ct_of 0 (by decide +kernel) (Nat.le_of_ble_eq_true rfl) rfl ?_
  refine r_aload_n dX10_house_0 rfl ?_
  refine r_iconst (v := nI 0) dX10_house_1 (by decide) ?_
  refine r_putI dX10_house_2 fl_X10_193 rfl rfl (kM_0 hC.1) ?_
  refine q_th hC (fun I hC h0 => ?_)
  have hC0 := hC
  have hz0 := hz
  obtain ⟨hM, hT, hSt, hLf, hIm, hWk⟩ := hC
  obtain ⟨okt, oks, okl⟩ := hz
  have hH8 : H ≤ 8 := oks.2.1
  have hM20 : 2 ≤ M ∧ M ≤ 20 := oks.1
  have hH : I m 1 = nI H := hSt.1.1
  have hMo : I m 2 = nI M := hSt.1.2.1
  by_cases c : cs h = []
  · have cv : hsV H cs e h 4 = nI 0 := by show nI (lkm 0 (cs h) % 2 ^ H) = _; rw [c]; show nI (0 % 2 ^ H) = _; rw [Nat.zero_mod]
    rw [cv]
    refine r_aload_n dX10_house_5 rfl ?_
    refine r_iload_n dX10_house_6 rfl ?_
    refine r_virtE (c_X10_isHouse m (nI h) hM h0) lk_X10_373 mc_X10_isHouse dX10_house_7 (kM_0 hM) (by decide) rfl rfl (Nat.le_of_ble_eq_true rfl) ?_
    rw [show (!decide (nI h < 0) && decide (nI h < I m 1)) = true from by rw [hH]; exact (isH_of hh (by omega)), thM_ok]
    refine r_if_eq (tgt := 27) dX10_house_10 (by decide) (fun hz => absurd hz (show ¬ _ from (by decide))) (fun _ => ?_)
    refine r_aload_n dX10_house_13 rfl ?_
    refine r_iload_n dX10_house_14 rfl ?_
    refine r_iconst (v := nI 0) dX10_house_15 (by decide) ?_
    refine r_iconst (v := nI 4) dX10_house_16 (by decide) ?_
    refine r_statE (c_X10_within (nI 4) (nI 0) (nI 4)) lk_X10_369 mc_X10_within dX10_house_17 (by decide) rfl rfl (Nat.le_of_ble_eq_true rfl) ?_
    rw [show (!decide (nI 4 < nI 0) && !decide (nI 4 < nI 4)) = true from wi_of (by decide) (by decide) (by decide)]
    refine r_iconst (v := nI 1) dX10_house_20 (by decide) ?_
    refine r_virtE (c_X10_right m true (nI 1) hM h0 (by decide)) lk_X10_343 mc_X10_right dX10_house_21 (kM_0 hM) (by decide) rfl rfl (Nat.le_of_ble_eq_true rfl) ?_
    rw [thM_ok]
    refine r_if_ne (tgt := 29) dX10_house_24 (by decide) (fun _ => ?_) (fun hz => absurd hz (show ¬ _ from (by decide)))
    refine r_iload_n dX10_house_29 rfl ?_
    refine r_if_ne (tgt := 42) dX10_house_30 (by decide) (fun _ => ?_) (fun hz => absurd hz (show ¬ _ from (by decide)))
    refine r_iload_n dX10_house_42 rfl ?_
    refine r_iconst (v := nI 1) dX10_house_43 (by decide) ?_
    refine r_icmp_ne (tgt := 56) dX10_house_44 (by decide) (fun _ => ?_) (fun hz => absurd hz (show ¬ _ from (by decide)))
    refine r_iload_n dX10_house_56 rfl ?_
    refine r_iconst (v := nI 2) dX10_house_57 (by decide) ?_
    refine r_icmp_ne (tgt := 70) dX10_house_58 (by decide) (fun _ => ?_) (fun hz => absurd hz (show ¬ _ from (by decide)))
    refine r_iload_n dX10_house_70 rfl ?_
    refine r_iconst (v := nI 3) dX10_house_71 (by decide) ?_
    refine r_icmp_ne (tgt := 84) dX10_house_72 (by decide) (fun _ => ?_) (fun hz => absurd hz (show ¬ _ from (by decide)))
    refine r_aload_n dX10_house_84 rfl ?_
    refine r_getR dX10_house_85 fl_X10_20 rfl (kM_0 hM) (pM_6 hM) ?_
    refine r_iload_n dX10_house_88 rfl ?_
    refine r_iald dX10_house_89 (aM_6 hM) (nI_in8 8 (by omega) (by decide)) (nI_clamp (by omega)) ?_
    rw [(hSt.2.2 h hh).1]
    rw [if_pos c]
    refine r_if_ne (tgt := 97) dX10_house_90 (by decide) (fun hz => absurd (show _ from rfl) hz) (fun _ => ?_)
    refine r_iconst (v := nI 0) dX10_house_93 (by decide) ?_
    refine r_goto (tgt := 102) dX10_house_94 (by decide) ?_
    refine r_iret rfl dX10_house_102 ?_
    exact RR.same h0 hC0
  · skip
    refine r_aload_n dX10_house_5 rfl ?_
    refine r_iload_n dX10_house_6 rfl ?_
    refine r_virtE (c_X10_isHouse m (nI h) hM h0) lk_X10_373 mc_X10_isHouse dX10_house_7 (kM_0 hM) (by decide) rfl rfl (Nat.le_of_ble_eq_true rfl) ?_
    rw [show (!decide (nI h < 0) && decide (nI h < I m 1)) = true from by rw [hH]; exact (isH_of hh (by omega)), thM_ok]
    refine r_if_eq (tgt := 27) dX10_house_10 (by decide) (fun hz => absurd hz (show ¬ _ from (by decide))) (fun _ => ?_)
    refine r_aload_n dX10_house_13 rfl ?_
    refine r_iload_n dX10_house_14 rfl ?_
    refine r_iconst (v := nI 0) dX10_house_15 (by decide) ?_
    refine r_iconst (v := nI 4) dX10_house_16 (by decide) ?_
    refine r_statE (c_X10_within (nI 4) (nI 0) (nI 4)) lk_X10_369 mc_X10_within dX10_house_17 (by decide) rfl rfl (Nat.le_of_ble_eq_true rfl) ?_
    rw [show (!decide (nI 4 < nI 0) && !decide (nI 4 < nI 4)) = true from wi_of (by decide) (by decide) (by decide)]
    refine r_iconst (v := nI 1) dX10_house_20 (by decide) ?_
    refine r_virtE (c_X10_right m true (nI 1) hM h0 (by decide)) lk_X10_343 mc_X10_right dX10_house_21 (kM_0 hM) (by decide) rfl rfl (Nat.le_of_ble_eq_true rfl) ?_
    rw [thM_ok]
    refine r_if_ne (tgt := 29) dX10_house_24 (by decide) (fun _ => ?_) (fun hz => absurd hz (show ¬ _ from (by decide)))
    refine r_iload_n dX10_house_29 rfl ?_
    refine r_if_ne (tgt := 42) dX10_house_30 (by decide) (fun _ => ?_) (fun hz => absurd hz (show ¬ _ from (by decide)))
    refine r_iload_n dX10_house_42 rfl ?_
    refine r_iconst (v := nI 1) dX10_house_43 (by decide) ?_
    refine r_icmp_ne (tgt := 56) dX10_house_44 (by decide) (fun _ => ?_) (fun hz => absurd hz (show ¬ _ from (by decide)))
    refine r_iload_n dX10_house_56 rfl ?_
    refine r_iconst (v := nI 2) dX10_house_57 (by decide) ?_
    refine r_icmp_ne (tgt := 70) dX10_house_58 (by decide) (fun _ => ?_) (fun hz => absurd hz (show ¬ _ from (by decide)))
    refine r_iload_n dX10_house_70 rfl ?_
    refine r_iconst (v := nI 3) dX10_house_71 (by decide) ?_
    refine r_icmp_ne (tgt := 84) dX10_house_72 (by decide) (fun _ => ?_) (fun hz => absurd hz (show ¬ _ from (by decide)))
    refine r_aload_n dX10_house_84 rfl ?_
    refine r_getR dX10_house_85 fl_X10_20 rfl (kM_0 hM) (pM_6 hM) ?_
    refine r_iload_n dX10_house_88 rfl ?_
    refine r_iald dX10_house_89 (aM_6 hM) (nI_in8 8 (by omega) (by decide)) (nI_clamp (by omega)) ?_
    rw [(hSt.2.2 h hh).1]
    rw [if_neg c]
    refine r_if_ne (tgt := 97) dX10_house_90 (by decide) (fun _ => ?_) (fun hz => absurd hz (show ¬ _ from (by decide)))
    refine r_aload_n dX10_house_97 rfl ?_
    refine r_iload_n dX10_house_98 rfl ?_
    refine r_virtE (c_X10_looksOf m h hM (by omega)) lk_X10_376 mc_X10_looksOf dX10_house_99 (kM_0 hM) (by decide) rfl rfl (Nat.le_of_ble_eq_true rfl) ?_
    rw [lks_r hH8 hh hSt]
    refine r_iret rfl dX10_house_102 ?_
    exact RR.same h0 hC0

set_option maxHeartbeats 4000000 in
set_option maxRecDepth 100000 in
theorem q_house_no (m : Nat) (h : Nat) (y : Int32) {t : Nat} {T : Nat → Nat} {fp : Int32} {rr : Nat → Int32} {H M : Nat} {un : Bool} {cs : Nat → List Nat} {tx : Nat → List Int32} {e : Lf} {im : Option Lf} {wk : Option (List Nat)} {n : Nat} {kd : mK} {I : mI} {J : mJ} {P : mP} (hC : RR m kd I P t T fp rr H M un cs tx e im wk) (hz : okZ t T H M cs e) (hh : h < H) (hy : (!decide (y < nI 0) && !decide (nI 4 < y)) = false) : Ct yX10_house cX10_house 3 (some .int) 10 0 0 [.ref m, .int (nI h), .int y] n kd I J P (pQ m n kd I J P (some (.int (nI 0))) 1 (RX m t T fp rr H M un cs tx e im wk)) := by
  refine ct_of 0 (by decide +kernel) (Nat.le_of_ble_eq_true rfl) rfl ?_
  refine r_aload_n dX10_house_0 rfl ?_
  refine r_iconst (v := nI 0) dX10_house_1 (by decide) ?_
  refine r_putI dX10_house_2 fl_X10_193 rfl rfl (kM_0 hC.1) ?_
  refine q_th hC (fun I hC h0 => ?_)
  have hC0 := hC
  have hz0 := hz
  obtain ⟨hM, hT, hSt, hLf, hIm, hWk⟩ := hC
  obtain ⟨okt, oks, okl⟩ := hz
  have hH8 : H ≤ 8 := oks.2.1
  have hM20 : 2 ≤ M ∧ M ≤ 20 := oks.1
  have hH : I m 1 = nI H := hSt.1.1
  have hMo : I m 2 = nI M := hSt.1.2.1
  refine r_aload_n dX10_house_5 rfl ?_
  refine r_iload_n dX10_house_6 rfl ?_
  refine r_virtE (c_X10_isHouse m (nI h) hM h0) lk_X10_373 mc_X10_isHouse dX10_house_7 (kM_0 hM) (by decide) rfl rfl (Nat.le_of_ble_eq_true rfl) ?_
  rw [show (!decide (nI h < 0) && decide (nI h < I m 1)) = true from by rw [hH]; exact (isH_of hh (by omega)), thM_ok]
  refine r_if_eq (tgt := 27) dX10_house_10 (by decide) (fun hz => absurd hz (show ¬ _ from (by decide))) (fun _ => ?_)
  refine r_aload_n dX10_house_13 rfl ?_
  refine r_iload_n dX10_house_14 rfl ?_
  refine r_iconst (v := nI 0) dX10_house_15 (by decide) ?_
  refine r_iconst (v := nI 4) dX10_house_16 (by decide) ?_
  refine r_statE (c_X10_within (y) (nI 0) (nI 4)) lk_X10_369 mc_X10_within dX10_house_17 (by decide) rfl rfl (Nat.le_of_ble_eq_true rfl) ?_
  rw [show (!decide (y < nI 0) && !decide (nI 4 < y)) = false from hy]
  refine r_iconst (v := nI 1) dX10_house_20 (by decide) ?_
  refine r_virtE (c_X10_right m false (nI 1) hM h0 (by decide)) lk_X10_343 mc_X10_right dX10_house_21 (kM_0 hM) (by decide) rfl rfl (Nat.le_of_ble_eq_true rfl) ?_
  refine r_if_ne (tgt := 29) dX10_house_24 (by decide) (fun hz => absurd (show _ from rfl) hz) (fun _ => ?_)
  refine r_iconst (v := nI 0) dX10_house_27 (by decide) ?_
  refine r_iret rfl dX10_house_28 ?_
  exact pQ.th hC0 am_is.mk

set_option maxHeartbeats 4000000 in
set_option maxRecDepth 100000 in
theorem q_become_no (m : Nat) (h : Nat) (y z : Int32) {t : Nat} {T : Nat → Nat} {fp : Int32} {rr : Nat → Int32} {H M : Nat} {un : Bool} {cs : Nat → List Nat} {tx : Nat → List Int32} {e : Lf} {im : Option Lf} {wk : Option (List Nat)} {n : Nat} {kd : mK} {I : mI} {J : mJ} {P : mP} (hC : RR m kd I P t T fp rr H M un cs tx e im wk) (hz : okZ t T H M cs e) (hh : h < H) (hy : (!decide (y < 0) && decide (y < nI 2)) = false) : Ct yX10_become cX10_become 5 (some .int) 10 0 0 [.ref m, .int (nI h), .int y, .int z] n kd I J P (pQ m n kd I J P (some (.int (nI 0))) 1 (RX m t T fp rr H M un cs tx e im wk)) := by
  refine ct_of 1 (by decide +kernel) (Nat.le_of_ble_eq_true rfl) rfl ?_
  refine r_aload_n dX10_become_0 rfl ?_
  refine r_iconst (v := nI 0) dX10_become_1 (by decide) ?_
  refine r_putI dX10_become_2 fl_X10_193 rfl rfl (kM_0 hC.1) ?_
  refine q_th hC (fun I hC h0 => ?_)
  have hC0 := hC
  have hz0 := hz
  obtain ⟨hM, hT, hSt, hLf, hIm, hWk⟩ := hC
  obtain ⟨okt, oks, okl⟩ := hz
  have hH8 : H ≤ 8 := oks.2.1
  have hM20 : 2 ≤ M ∧ M ≤ 20 := oks.1
  have hH : I m 1 = nI H := hSt.1.1
  have hMo : I m 2 = nI M := hSt.1.2.1
  refine r_aload_n dX10_become_5 rfl ?_
  refine r_iload_n dX10_become_6 rfl ?_
  refine r_virtE (c_X10_isHouse m (nI h) hM h0) lk_X10_373 mc_X10_isHouse dX10_become_7 (kM_0 hM) (by decide) rfl rfl (Nat.le_of_ble_eq_true rfl) ?_
  rw [show (!decide (nI h < 0) && decide (nI h < I m 1)) = true from by rw [hH]; exact (isH_of hh (by omega)), thM_ok]
  refine r_if_eq (tgt := 21) dX10_become_10 (by decide) (fun hz => absurd hz (show ¬ _ from (by decide))) (fun _ => ?_)
  refine r_aload_n dX10_become_13 rfl ?_
  refine r_iload_n dX10_become_14 rfl ?_
  refine r_virtE (c_X10_isTwo m (y) hM h0) lk_X10_379 mc_X10_isTwo dX10_become_15 (kM_0 hM) (by decide) rfl rfl (Nat.le_of_ble_eq_true rfl) ?_
  rw [show (decide (y = 0) || decide (y = nI 1)) = false from two_no hy]
  refine r_if_ne (tgt := 23) dX10_become_18 (by decide) (fun hz => absurd (show _ from rfl) hz) (fun _ => ?_)
  refine r_iconst (v := nI 0) dX10_become_21 (by decide) ?_
  refine r_iret rfl dX10_become_22 ?_
  exact pQ.th hC0 am_is.mk

set_option maxHeartbeats 4000000 in
set_option maxRecDepth 100000 in
theorem q_become_ref (m : Nat) (h k : Nat) (y : Int32) {t : Nat} {T : Nat → Nat} {fp : Int32} {rr : Nat → Int32} {H M : Nat} {un : Bool} {cs : Nat → List Nat} {tx : Nat → List Int32} {e : Lf} {im : Option Lf} {wk : Option (List Nat)} {n : Nat} {kd : mK} {I : mI} {J : mJ} {P : mP} (hC : RR m kd I P t T fp rr H M un cs tx e im wk) (hz : okZ t T H M cs e) (hh : h < H) (hk2 : k < 2) (hy : y < 0 ∨ nI 99 < y) : Ct yX10_become cX10_become 5 (some .int) 10 0 0 [.ref m, .int (nI h), .int (nI k), .int y] n kd I J P (pQ m n kd I J P (some (.int (-1))) 0 (RX m t T fp (va_up rr 1 (rr 1 + nI 1)) H M un cs tx e im wk)) := by
  refine ct_of 1 (by decide +kernel) (Nat.le_of_ble_eq_true rfl) rfl ?_
  refine r_aload_n dX10_become_0 rfl ?_
  refine r_iconst (v := nI 0) dX10_become_1 (by decide) ?_
  refine r_putI dX10_become_2 fl_X10_193 rfl rfl (kM_0 hC.1) ?_
  refine q_th hC (fun I hC h0 => ?_)
  have hC0 := hC
  have hz0 := hz
  obtain ⟨hM, hT, hSt, hLf, hIm, hWk⟩ := hC
  obtain ⟨okt, oks, okl⟩ := hz
  have hH8 : H ≤ 8 := oks.2.1
  have hM20 : 2 ≤ M ∧ M ≤ 20 := oks.1
  have hH : I m 1 = nI H := hSt.1.1
  have hMo : I m 2 = nI M := hSt.1.2.1
  refine r_aload_n dX10_become_5 rfl ?_
  refine r_iload_n dX10_become_6 rfl ?_
  refine r_virtE (c_X10_isHouse m (nI h) hM h0) lk_X10_373 mc_X10_isHouse dX10_become_7 (kM_0 hM) (by decide) rfl rfl (Nat.le_of_ble_eq_true rfl) ?_
  rw [show (!decide (nI h < 0) && decide (nI h < I m 1)) = true from by rw [hH]; exact (isH_of hh (by omega)), thM_ok]
  refine r_if_eq (tgt := 21) dX10_become_10 (by decide) (fun hz => absurd hz (show ¬ _ from (by decide))) (fun _ => ?_)
  refine r_aload_n dX10_become_13 rfl ?_
  refine r_iload_n dX10_become_14 rfl ?_
  refine r_virtE (c_X10_isTwo m (nI k) hM h0) lk_X10_379 mc_X10_isTwo dX10_become_15 (kM_0 hM) (by decide) rfl rfl (Nat.le_of_ble_eq_true rfl) ?_
  rw [show (decide (nI k = 0) || decide (nI k = nI 1)) = true from two_of hk2, thM_ok]
  refine r_if_ne (tgt := 23) dX10_become_18 (by decide) (fun _ => ?_) (fun hz => absurd hz (show ¬ _ from (by decide)))
  refine r_iload_n dX10_become_23 rfl ?_
  refine r_iconst (v := nI 0) dX10_become_24 (by decide) ?_
  refine r_bipush (v := nI 99) dX10_become_25 (by decide) ?_
  refine r_statE (c_X10_within (y) (nI 0) (nI 99)) lk_X10_369 mc_X10_within dX10_become_27 (by decide) rfl rfl (Nat.le_of_ble_eq_true rfl) ?_
  rw [show (!decide (y < nI 0) && !decide (nI 99 < y)) = false from wi_no hy]
  refine r_if_ne (tgt := 39) dX10_become_30 (by decide) (fun hz => absurd (show _ from rfl) hz) (fun _ => ?_)
  refine r_aload_n dX10_become_33 rfl ?_
  refine r_iconst (v := nI 1) dX10_become_34 (by decide) ?_
  refine r_virtE (c_X10_refuses m 1 hM (by decide)) lk_X10_382 mc_X10_refuses dX10_become_35 (kM_0 hM) (by decide) rfl rfl (Nat.le_of_ble_eq_true rfl) ?_
  refine r_iret rfl dX10_become_38 ?_
  exact ⟨rfl, rfl, rfl, rfl, fun a ha => ⟨am_up_n _ _ (by omega), rfl⟩, by rw [am_up_n _ _ (by omega)]; exact h0, RR.ref (k := 1) (by decide) hC0⟩

theorem turn_m {I : mI} {m k h j : Nat} {v : Int32} : turnM I m k h v m j = I m j := by
  rw [turn_fr (by omega) (by omega) (by omega)]
set_option maxHeartbeats 4000000 in
set_option maxRecDepth 100000 in
theorem q_become (m : Nat) (h k v : Nat) {t : Nat} {T : Nat → Nat} {fp : Int32} {rr : Nat → Int32} {H M : Nat} {un : Bool} {cs : Nat → List Nat} {tx : Nat → List Int32} {e : Lf} {im : Option Lf} {wk : Option (List Nat)} {n : Nat} {kd : mK} {I : mI} {J : mJ} {P : mP} (hC : RR m kd I P t T fp rr H M un cs tx e im wk) (hz : okZ t T H M cs e) (hh : h < H) (hk2 : k < 2) (hv : v ≤ 99) : Ct yX10_become cX10_become 5 (some .int) 10 0 0 [.ref m, .int (nI h), .int (nI k), .int (nI v)] n kd I J P (pQ m n kd I J P (some (.int (nI (hadE e k h)))) 0 (RX m t T fp rr H M un cs tx (actE e k h v) im wk)) := by
  refine ct_of 1 (by decide +kernel) (Nat.le_of_ble_eq_true rfl) rfl ?_
  refine r_aload_n dX10_become_0 rfl ?_
  refine r_iconst (v := nI 0) dX10_become_1 (by decide) ?_
  refine r_putI dX10_become_2 fl_X10_193 rfl rfl (kM_0 hC.1) ?_
  refine q_th hC (fun I hC h0 => ?_)
  have hC0 := hC
  have hz0 := hz
  obtain ⟨hM, hT, hSt, hLf, hIm, hWk⟩ := hC
  obtain ⟨okt, oks, okl⟩ := hz
  have hH8 : H ≤ 8 := oks.2.1
  have hM20 : 2 ≤ M ∧ M ≤ 20 := oks.1
  have hH : I m 1 = nI H := hSt.1.1
  have hMo : I m 2 = nI M := hSt.1.2.1
  refine r_aload_n dX10_become_5 rfl ?_
  refine r_iload_n dX10_become_6 rfl ?_
  refine r_virtE (c_X10_isHouse m (nI h) hM h0) lk_X10_373 mc_X10_isHouse dX10_become_7 (kM_0 hM) (by decide) rfl rfl (Nat.le_of_ble_eq_true rfl) ?_
  rw [show (!decide (nI h < 0) && decide (nI h < I m 1)) = true from by rw [hH]; exact (isH_of hh (by omega)), thM_ok]
  refine r_if_eq (tgt := 21) dX10_become_10 (by decide) (fun hz => absurd hz (show ¬ _ from (by decide))) (fun _ => ?_)
  refine r_aload_n dX10_become_13 rfl ?_
  refine r_iload_n dX10_become_14 rfl ?_
  refine r_virtE (c_X10_isTwo m (nI k) hM h0) lk_X10_379 mc_X10_isTwo dX10_become_15 (kM_0 hM) (by decide) rfl rfl (Nat.le_of_ble_eq_true rfl) ?_
  rw [show (decide (nI k = 0) || decide (nI k = nI 1)) = true from two_of hk2, thM_ok]
  refine r_if_ne (tgt := 23) dX10_become_18 (by decide) (fun _ => ?_) (fun hz => absurd hz (show ¬ _ from (by decide)))
  refine r_iload_n dX10_become_23 rfl ?_
  refine r_iconst (v := nI 0) dX10_become_24 (by decide) ?_
  refine r_bipush (v := nI 99) dX10_become_25 (by decide) ?_
  refine r_statE (c_X10_within (nI v) (nI 0) (nI 99)) lk_X10_369 mc_X10_within dX10_become_27 (by decide) rfl rfl (Nat.le_of_ble_eq_true rfl) ?_
  rw [show (!decide (nI v < nI 0) && !decide (nI 99 < nI v)) = true from wi_of (by omega) hv (by decide)]
  refine r_if_ne (tgt := 39) dX10_become_30 (by decide) (fun _ => ?_) (fun hz => absurd hz (show ¬ _ from (by decide)))
  refine r_aload_n dX10_become_39 rfl ?_
  refine r_iload_n dX10_become_40 rfl ?_
  refine r_iload_n dX10_become_41 rfl ?_
  refine r_iload_n dX10_become_42 rfl ?_
  refine r_virtE (c_X10_turns m h k (nI v) hM (by omega) (by omega)) lk_X10_385 mc_X10_turns dX10_become_43 (kM_0 hM) (by decide) rfl rfl (Nat.le_of_ble_eq_true rfl) ?_
  rw [turn_v hh hLf]
  refine r_istore dX10_become_46 (by decide) ?_
  refine r_aload_n dX10_become_48 rfl ?_
  refine r_iload_n dX10_become_49 rfl ?_
  refine r_iload_n dX10_become_50 rfl ?_
  refine r_iload dX10_become_51 rfl ?_
  refine r_virt (kc2 := 0) (ks2 := 0) (c_X10_keeps m H M h k (hadE e k h) (putE e k h v) hM (rL_turn (fun a b => absurd hk2 (by omega)) hLf) (okL_put hv okl)) lk_X10_389 mc_X10_keeps dX10_become_53 (kM_0 hM) (by decide) rfl rfl (Nat.le_of_ble_eq_true rfl) (by omega) (by omega) (fun _ _ _ _ _ _ h => nomatch h.1) (fun v1 n1 kd1 I1 J1 P1 h1 => ?_)
  obtain ⟨h00, rfl, rfl, rfl, rfl, hfr, hf0, hrl⟩ := h1
  cases h00
  simp only [Option.toList, List.nil_append]
  refine r_iload dX10_become_56 rfl ?_
  refine r_iret rfl dX10_become_58 ?_
  have hpA : (putE e k h v).2.2.2.1 = e.2.2.2.1 := by rw [putE_A]
  rw [hpA, ← put_set] at hrl
  exact ⟨rfl, rfl, rfl, rfl, fun a ha => ⟨by rw [hfr a (by omega) (by omega), turn_fr (by omega) (by omega) (by omega)], rfl⟩, by rw [hf0 0 (by decide), turn_m]; exact h0, RR.up (I := I) (fun a a1 a2 a3 a4 a5 a6 a7 => by rw [hfr a (by omega) (by omega), turn_fr a3 a4 a5]) (fun j hj => by rw [hf0 j (by omega), turn_m]) hrl hC0⟩

set_option maxHeartbeats 4000000 in
set_option maxRecDepth 100000 in
theorem q_mute_ref (m : Nat) (h : Nat) (z : Bool) {t : Nat} {T : Nat → Nat} {fp : Int32} {rr : Nat → Int32} {H M : Nat} {un : Bool} {cs : Nat → List Nat} {tx : Nat → List Int32} {e : Lf} {im : Option Lf} {wk : Option (List Nat)} {n : Nat} {kd : mK} {I : mI} {J : mJ} {P : mP} (hC : RR m kd I P t T fp rr H M un cs tx e im wk) (hz : okZ t T H M cs e) (hh : h < H) (hm : (cs h).isEmpty = true ∨ e.2.2.1 h = z) : Ct yX10_mute cX10_mute 3 (some .boolean) 10 0 0 [.ref m, .int (nI h), .int (bz z)] n kd I J P (pQ m n kd I J P (some (.int (nI 0))) 0 (RX m t T fp (va_up rr 1 (rr 1 + nI 1)) H M un cs tx e im wk)) := by
  refine ct_of 0 (by decide +kernel) (Nat.le_of_ble_eq_true rfl) rfl ?_
  refine r_aload_n dX10_mute_0 rfl ?_
  refine r_iconst (v := nI 0) dX10_mute_1 (by decide) ?_
  refine r_putI dX10_mute_2 fl_X10_193 rfl rfl (kM_0 hC.1) ?_
  refine q_th hC (fun I hC h0 => ?_)
  have hC0 := hC
  have hz0 := hz
  obtain ⟨hM, hT, hSt, hLf, hIm, hWk⟩ := hC
  obtain ⟨okt, oks, okl⟩ := hz
  have hH8 : H ≤ 8 := oks.2.1
  have hM20 : 2 ≤ M ∧ M ≤ 20 := oks.1
  have hH : I m 1 = nI H := hSt.1.1
  have hMo : I m 2 = nI M := hSt.1.2.1
  cases z with
  | false =>
    by_cases c : (cs h).isEmpty = true
    · have cw : (if cs h = [] then nI 0 else nI 1) = nI 0 := if_pos (List.isEmpty_iff.mp c)
      refine r_aload_n dX10_mute_5 rfl ?_
      refine r_iload_n dX10_mute_6 rfl ?_
      refine r_virtE (c_X10_isHouse m (nI h) hM h0) lk_X10_373 mc_X10_isHouse dX10_mute_7 (kM_0 hM) (by decide) rfl rfl (Nat.le_of_ble_eq_true rfl) ?_
      rw [show (!decide (nI h < 0) && decide (nI h < I m 1)) = true from by rw [hH]; exact (isH_of hh (by omega)), thM_ok]
      refine r_if_ne (tgt := 15) dX10_mute_10 (by decide) (fun _ => ?_) (fun hz => absurd hz (show ¬ _ from (by decide)))
      refine r_aload_n dX10_mute_15 rfl ?_
      refine r_getR dX10_mute_16 fl_X10_20 rfl (kM_0 hM) (pM_6 hM) ?_
      refine r_iload_n dX10_mute_19 rfl ?_
      refine r_iald dX10_mute_20 (aM_6 hM) (nI_in8 8 (by omega) (by decide)) (nI_clamp (by omega)) ?_
      rw [(hSt.2.2 h hh).1, cw]
      refine r_if_eq (tgt := 43) dX10_mute_21 (by decide) (fun _ => ?_) (fun hz => absurd (show _ from rfl) hz)
      refine r_aload_n dX10_mute_43 rfl ?_
      refine r_iconst (v := nI 1) dX10_mute_44 (by decide) ?_
      refine r_virtE (c_X10_refuses m 1 hM (by decide)) lk_X10_382 mc_X10_refuses dX10_mute_45 (kM_0 hM) (by decide) rfl rfl (Nat.le_of_ble_eq_true rfl) ?_
      refine r_if_le (tgt := 55) dX10_mute_48 (by decide) (fun _ => ?_) (fun hz => absurd (show _ from (by decide)) hz)
      refine r_iconst (v := nI 0) dX10_mute_55 (by decide) ?_
      refine r_zret rfl dX10_mute_56 (by first | exact Or.inl rfl | exact Or.inr rfl | assumption) ?_
      exact ⟨rfl, rfl, rfl, rfl, fun a ha => ⟨am_up_n _ _ (by omega), rfl⟩, by rw [am_up_n _ _ (by omega)]; exact h0, RR.ref (k := 1) (by decide) hC0⟩
    · have cw : (if cs h = [] then nI 0 else nI 1) = nI 1 := if_neg (fun q => c (List.isEmpty_iff.mpr q))
      have cm : e.2.2.1 h = false := hm.resolve_left c
      refine r_aload_n dX10_mute_5 rfl ?_
      refine r_iload_n dX10_mute_6 rfl ?_
      refine r_virtE (c_X10_isHouse m (nI h) hM h0) lk_X10_373 mc_X10_isHouse dX10_mute_7 (kM_0 hM) (by decide) rfl rfl (Nat.le_of_ble_eq_true rfl) ?_
      rw [show (!decide (nI h < 0) && decide (nI h < I m 1)) = true from by rw [hH]; exact (isH_of hh (by omega)), thM_ok]
      refine r_if_ne (tgt := 15) dX10_mute_10 (by decide) (fun _ => ?_) (fun hz => absurd hz (show ¬ _ from (by decide)))
      refine r_aload_n dX10_mute_15 rfl ?_
      refine r_getR dX10_mute_16 fl_X10_20 rfl (kM_0 hM) (pM_6 hM) ?_
      refine r_iload_n dX10_mute_19 rfl ?_
      refine r_iald dX10_mute_20 (aM_6 hM) (nI_in8 8 (by omega) (by decide)) (nI_clamp (by omega)) ?_
      rw [(hSt.2.2 h hh).1, cw]
      refine r_if_eq (tgt := 43) dX10_mute_21 (by decide) (fun hz => absurd hz (show ¬ _ from (by decide))) (fun _ => ?_)
      refine r_aload_n dX10_mute_24 rfl ?_
      refine r_getR dX10_mute_25 fl_X10_23 rfl (kM_0 hM) (pM_7 hM) ?_
      refine r_iload_n dX10_mute_28 rfl ?_
      refine r_iald dX10_mute_29 (aM_7 hM) (nI_in8 8 (by omega) (by decide)) (nI_clamp (by omega)) ?_
      rw [(hLf.1 h hh).2.2, cm]
      refine r_iconst (v := nI 1) dX10_mute_30 (by decide) ?_
      refine r_icmp_ne (tgt := 38) dX10_mute_31 (by decide) (fun _ => ?_) (fun hz => absurd hz (show ¬ _ from (by decide)))
      refine r_iconst (v := nI 0) dX10_mute_38 (by decide) ?_
      refine r_iload_n dX10_mute_39 rfl ?_
      refine r_icmp_ne (tgt := 57) dX10_mute_40 (by decide) (fun hz => absurd (show _ from rfl) hz) (fun _ => ?_)
      refine r_aload_n dX10_mute_43 rfl ?_
      refine r_iconst (v := nI 1) dX10_mute_44 (by decide) ?_
      refine r_virtE (c_X10_refuses m 1 hM (by decide)) lk_X10_382 mc_X10_refuses dX10_mute_45 (kM_0 hM) (by decide) rfl rfl (Nat.le_of_ble_eq_true rfl) ?_
      refine r_if_le (tgt := 55) dX10_mute_48 (by decide) (fun _ => ?_) (fun hz => absurd (show _ from (by decide)) hz)
      refine r_iconst (v := nI 0) dX10_mute_55 (by decide) ?_
      refine r_zret rfl dX10_mute_56 (by first | exact Or.inl rfl | exact Or.inr rfl | assumption) ?_
      exact ⟨rfl, rfl, rfl, rfl, fun a ha => ⟨am_up_n _ _ (by omega), rfl⟩, by rw [am_up_n _ _ (by omega)]; exact h0, RR.ref (k := 1) (by decide) hC0⟩
  | true =>
    by_cases c : (cs h).isEmpty = true
    · have cw : (if cs h = [] then nI 0 else nI 1) = nI 0 := if_pos (List.isEmpty_iff.mp c)
      refine r_aload_n dX10_mute_5 rfl ?_
      refine r_iload_n dX10_mute_6 rfl ?_
      refine r_virtE (c_X10_isHouse m (nI h) hM h0) lk_X10_373 mc_X10_isHouse dX10_mute_7 (kM_0 hM) (by decide) rfl rfl (Nat.le_of_ble_eq_true rfl) ?_
      rw [show (!decide (nI h < 0) && decide (nI h < I m 1)) = true from by rw [hH]; exact (isH_of hh (by omega)), thM_ok]
      refine r_if_ne (tgt := 15) dX10_mute_10 (by decide) (fun _ => ?_) (fun hz => absurd hz (show ¬ _ from (by decide)))
      refine r_aload_n dX10_mute_15 rfl ?_
      refine r_getR dX10_mute_16 fl_X10_20 rfl (kM_0 hM) (pM_6 hM) ?_
      refine r_iload_n dX10_mute_19 rfl ?_
      refine r_iald dX10_mute_20 (aM_6 hM) (nI_in8 8 (by omega) (by decide)) (nI_clamp (by omega)) ?_
      rw [(hSt.2.2 h hh).1, cw]
      refine r_if_eq (tgt := 43) dX10_mute_21 (by decide) (fun _ => ?_) (fun hz => absurd (show _ from rfl) hz)
      refine r_aload_n dX10_mute_43 rfl ?_
      refine r_iconst (v := nI 1) dX10_mute_44 (by decide) ?_
      refine r_virtE (c_X10_refuses m 1 hM (by decide)) lk_X10_382 mc_X10_refuses dX10_mute_45 (kM_0 hM) (by decide) rfl rfl (Nat.le_of_ble_eq_true rfl) ?_
      refine r_if_le (tgt := 55) dX10_mute_48 (by decide) (fun _ => ?_) (fun hz => absurd (show _ from (by decide)) hz)
      refine r_iconst (v := nI 0) dX10_mute_55 (by decide) ?_
      refine r_zret rfl dX10_mute_56 (by first | exact Or.inl rfl | exact Or.inr rfl | assumption) ?_
      exact ⟨rfl, rfl, rfl, rfl, fun a ha => ⟨am_up_n _ _ (by omega), rfl⟩, by rw [am_up_n _ _ (by omega)]; exact h0, RR.ref (k := 1) (by decide) hC0⟩
    · have cw : (if cs h = [] then nI 0 else nI 1) = nI 1 := if_neg (fun q => c (List.isEmpty_iff.mpr q))
      have cm : e.2.2.1 h = true := hm.resolve_left c
      refine r_aload_n dX10_mute_5 rfl ?_
      refine r_iload_n dX10_mute_6 rfl ?_
      refine r_virtE (c_X10_isHouse m (nI h) hM h0) lk_X10_373 mc_X10_isHouse dX10_mute_7 (kM_0 hM) (by decide) rfl rfl (Nat.le_of_ble_eq_true rfl) ?_
      rw [show (!decide (nI h < 0) && decide (nI h < I m 1)) = true from by rw [hH]; exact (isH_of hh (by omega)), thM_ok]
      refine r_if_ne (tgt := 15) dX10_mute_10 (by decide) (fun _ => ?_) (fun hz => absurd hz (show ¬ _ from (by decide)))
      refine r_aload_n dX10_mute_15 rfl ?_
      refine r_getR dX10_mute_16 fl_X10_20 rfl (kM_0 hM) (pM_6 hM) ?_
      refine r_iload_n dX10_mute_19 rfl ?_
      refine r_iald dX10_mute_20 (aM_6 hM) (nI_in8 8 (by omega) (by decide)) (nI_clamp (by omega)) ?_
      rw [(hSt.2.2 h hh).1, cw]
      refine r_if_eq (tgt := 43) dX10_mute_21 (by decide) (fun hz => absurd hz (show ¬ _ from (by decide))) (fun _ => ?_)
      refine r_aload_n dX10_mute_24 rfl ?_
      refine r_getR dX10_mute_25 fl_X10_23 rfl (kM_0 hM) (pM_7 hM) ?_
      refine r_iload_n dX10_mute_28 rfl ?_
      refine r_iald dX10_mute_29 (aM_7 hM) (nI_in8 8 (by omega) (by decide)) (nI_clamp (by omega)) ?_
      rw [(hLf.1 h hh).2.2, cm]
      refine r_iconst (v := nI 1) dX10_mute_30 (by decide) ?_
      refine r_icmp_ne (tgt := 38) dX10_mute_31 (by decide) (fun hz => absurd (show _ from rfl) hz) (fun _ => ?_)
      refine r_iconst (v := nI 1) dX10_mute_34 (by decide) ?_
      refine r_goto (tgt := 39) dX10_mute_35 (by decide) ?_
      refine r_iload_n dX10_mute_39 rfl ?_
      refine r_icmp_ne (tgt := 57) dX10_mute_40 (by decide) (fun hz => absurd (show _ from rfl) hz) (fun _ => ?_)
      refine r_aload_n dX10_mute_43 rfl ?_
      refine r_iconst (v := nI 1) dX10_mute_44 (by decide) ?_
      refine r_virtE (c_X10_refuses m 1 hM (by decide)) lk_X10_382 mc_X10_refuses dX10_mute_45 (kM_0 hM) (by decide) rfl rfl (Nat.le_of_ble_eq_true rfl) ?_
      refine r_if_le (tgt := 55) dX10_mute_48 (by decide) (fun _ => ?_) (fun hz => absurd (show _ from (by decide)) hz)
      refine r_iconst (v := nI 0) dX10_mute_55 (by decide) ?_
      refine r_zret rfl dX10_mute_56 (by first | exact Or.inl rfl | exact Or.inr rfl | assumption) ?_
      exact ⟨rfl, rfl, rfl, rfl, fun a ha => ⟨am_up_n _ _ (by omega), rfl⟩, by rw [am_up_n _ _ (by omega)]; exact h0, RR.ref (k := 1) (by decide) hC0⟩

set_option maxHeartbeats 4000000 in
set_option maxRecDepth 100000 in
theorem q_mute (m : Nat) (h : Nat) (z : Bool) {t : Nat} {T : Nat → Nat} {fp : Int32} {rr : Nat → Int32} {H M : Nat} {un : Bool} {cs : Nat → List Nat} {tx : Nat → List Int32} {e : Lf} {im : Option Lf} {wk : Option (List Nat)} {n : Nat} {kd : mK} {I : mI} {J : mJ} {P : mP} (hC : RR m kd I P t T fp rr H M un cs tx e im wk) (hz : okZ t T H M cs e) (hh : h < H) (cf : (cs h).isEmpty = false) (hm : ¬ e.2.2.1 h = z) : Ct yX10_mute cX10_mute 3 (some .boolean) 10 0 0 [.ref m, .int (nI h), .int (bz z)] n kd I J P (pQ m n kd I J P (some (.int (nI 1))) 0 (RX m t T fp rr H M un cs tx (actE e 2 h (if z then 1 else 0)) im wk)) := by
  refine ct_of 0 (by decide +kernel) (Nat.le_of_ble_eq_true rfl) rfl ?_
  refine r_aload_n dX10_mute_0 rfl ?_
  refine r_iconst (v := nI 0) dX10_mute_1 (by decide) ?_
  refine r_putI dX10_mute_2 fl_X10_193 rfl rfl (kM_0 hC.1) ?_
  refine q_th hC (fun I hC h0 => ?_)
  have hC0 := hC
  have hz0 := hz
  obtain ⟨hM, hT, hSt, hLf, hIm, hWk⟩ := hC
  obtain ⟨okt, oks, okl⟩ := hz
  have hH8 : H ≤ 8 := oks.2.1
  have hM20 : 2 ≤ M ∧ M ≤ 20 := oks.1
  have hH : I m 1 = nI H := hSt.1.1
  have hMo : I m 2 = nI M := hSt.1.2.1
  have cw : (if cs h = [] then nI 0 else nI 1) = nI 1 := if_neg (fun q => by rw [q] at cf; exact absurd cf (by decide))
  cases z with
  | false =>
    have cm : e.2.2.1 h = true := by cases hx : e.2.2.1 h <;> simp_all
    refine r_aload_n dX10_mute_5 rfl ?_
    refine r_iload_n dX10_mute_6 rfl ?_
    refine r_virtE (c_X10_isHouse m (nI h) hM h0) lk_X10_373 mc_X10_isHouse dX10_mute_7 (kM_0 hM) (by decide) rfl rfl (Nat.le_of_ble_eq_true rfl) ?_
    rw [show (!decide (nI h < 0) && decide (nI h < I m 1)) = true from by rw [hH]; exact (isH_of hh (by omega)), thM_ok]
    refine r_if_ne (tgt := 15) dX10_mute_10 (by decide) (fun _ => ?_) (fun hz => absurd hz (show ¬ _ from (by decide)))
    refine r_aload_n dX10_mute_15 rfl ?_
    refine r_getR dX10_mute_16 fl_X10_20 rfl (kM_0 hM) (pM_6 hM) ?_
    refine r_iload_n dX10_mute_19 rfl ?_
    refine r_iald dX10_mute_20 (aM_6 hM) (nI_in8 8 (by omega) (by decide)) (nI_clamp (by omega)) ?_
    rw [(hSt.2.2 h hh).1, cw]
    refine r_if_eq (tgt := 43) dX10_mute_21 (by decide) (fun hz => absurd hz (show ¬ _ from (by decide))) (fun _ => ?_)
    refine r_aload_n dX10_mute_24 rfl ?_
    refine r_getR dX10_mute_25 fl_X10_23 rfl (kM_0 hM) (pM_7 hM) ?_
    refine r_iload_n dX10_mute_28 rfl ?_
    refine r_iald dX10_mute_29 (aM_7 hM) (nI_in8 8 (by omega) (by decide)) (nI_clamp (by omega)) ?_
    rw [(hLf.1 h hh).2.2, cm]
    refine r_iconst (v := nI 1) dX10_mute_30 (by decide) ?_
    refine r_icmp_ne (tgt := 38) dX10_mute_31 (by decide) (fun hz => absurd (show _ from rfl) hz) (fun _ => ?_)
    refine r_iconst (v := nI 1) dX10_mute_34 (by decide) ?_
    refine r_goto (tgt := 39) dX10_mute_35 (by decide) ?_
    refine r_iload_n dX10_mute_39 rfl ?_
    refine r_icmp_ne (tgt := 57) dX10_mute_40 (by decide) (fun _ => ?_) (fun hz => absurd hz (show ¬ _ from (by decide)))
    refine r_aload_n dX10_mute_57 rfl ?_
    refine r_iload_n dX10_mute_58 rfl ?_
    refine r_iconst (v := nI 2) dX10_mute_59 (by decide) ?_
    refine r_aload_n dX10_mute_60 rfl ?_
    refine r_getR dX10_mute_61 fl_X10_23 rfl (kM_0 hM) (pM_7 hM) ?_
    refine r_iload_n dX10_mute_64 rfl ?_
    refine r_iald dX10_mute_65 (aM_7 hM) (nI_in8 8 (by omega) (by decide)) (nI_clamp (by omega)) ?_
    rw [(hLf.1 h hh).2.2, cm, show bz true = nI 1 from rfl]
    refine r_virt (kc2 := 0) (ks2 := 0) (c_X10_keeps m H M h 2 1 e hM hLf okl) lk_X10_389 mc_X10_keeps dX10_mute_66 (kM_0 hM) (by decide) rfl rfl (Nat.le_of_ble_eq_true rfl) (by omega) (by omega) (fun _ _ _ _ _ _ h => nomatch h.1) (fun v1 n1 kd1 I1 J1 P1 h1 => ?_)
    obtain ⟨h00, rfl, rfl, rfl, rfl, hfr, hf0, hrl⟩ := h1
    cases h00
    simp only [Option.toList, List.nil_append]
    refine r_aload_n dX10_mute_69 rfl ?_
    refine r_getR dX10_mute_70 fl_X10_23 rfl (kM_0 hM) (pM_7 hM) ?_
    refine r_iload_n dX10_mute_73 rfl ?_
    refine r_iload_n dX10_mute_74 rfl ?_
    refine r_if_eq (tgt := 82) dX10_mute_75 (by decide) (fun _ => ?_) (fun hz => absurd (show _ from rfl) hz)
    refine r_iconst (v := nI 0) dX10_mute_82 (by decide) ?_
    refine r_iast dX10_mute_83 (aM_7 hM) (nI_in8 8 (by omega) (by decide)) (nI_clamp (by omega)) ?_
    refine r_iconst (v := nI 1) dX10_mute_84 (by decide) ?_
    refine r_zret rfl dX10_mute_85 (by first | exact Or.inl rfl | exact Or.inr rfl | assumption) ?_
    have hd : hadE e 2 h = 1 := by rw [had_2, cm]; rfl
    have hr2 := rL_turn (k := 2) (h := h) (v := 0) (fun _ _ => by decide) hrl
    rw [show turnM I1 m 2 h (nI 0) = va_up I1 (m + 4) (va_up (I1 (m + 4)) h (nI 0)) from rfl] at hr2
    refine ⟨rfl, rfl, rfl, rfl, fun a ha => ⟨by rw [am_up_n _ _ (by omega), hfr a (by omega) (by omega)], rfl⟩, by rw [am_up_n _ _ (by omega), hf0 0 (by decide)]; exact h0, RR.up (I := I) (fun a a1 a2 a3 a4 a5 a6 a7 => by rw [am_up_n _ _ a5, hfr a (by omega) (by omega)]) (fun j hj => by rw [am_up_n _ _ (by omega), hf0 j (by omega)]) ?_ hC0⟩
    unfold actE
    rw [hd]
    exact hr2
  | true =>
    have cm : e.2.2.1 h = false := by cases hx : e.2.2.1 h <;> simp_all
    refine r_aload_n dX10_mute_5 rfl ?_
    refine r_iload_n dX10_mute_6 rfl ?_
    refine r_virtE (c_X10_isHouse m (nI h) hM h0) lk_X10_373 mc_X10_isHouse dX10_mute_7 (kM_0 hM) (by decide) rfl rfl (Nat.le_of_ble_eq_true rfl) ?_
    rw [show (!decide (nI h < 0) && decide (nI h < I m 1)) = true from by rw [hH]; exact (isH_of hh (by omega)), thM_ok]
    refine r_if_ne (tgt := 15) dX10_mute_10 (by decide) (fun _ => ?_) (fun hz => absurd hz (show ¬ _ from (by decide)))
    refine r_aload_n dX10_mute_15 rfl ?_
    refine r_getR dX10_mute_16 fl_X10_20 rfl (kM_0 hM) (pM_6 hM) ?_
    refine r_iload_n dX10_mute_19 rfl ?_
    refine r_iald dX10_mute_20 (aM_6 hM) (nI_in8 8 (by omega) (by decide)) (nI_clamp (by omega)) ?_
    rw [(hSt.2.2 h hh).1, cw]
    refine r_if_eq (tgt := 43) dX10_mute_21 (by decide) (fun hz => absurd hz (show ¬ _ from (by decide))) (fun _ => ?_)
    refine r_aload_n dX10_mute_24 rfl ?_
    refine r_getR dX10_mute_25 fl_X10_23 rfl (kM_0 hM) (pM_7 hM) ?_
    refine r_iload_n dX10_mute_28 rfl ?_
    refine r_iald dX10_mute_29 (aM_7 hM) (nI_in8 8 (by omega) (by decide)) (nI_clamp (by omega)) ?_
    rw [(hLf.1 h hh).2.2, cm]
    refine r_iconst (v := nI 1) dX10_mute_30 (by decide) ?_
    refine r_icmp_ne (tgt := 38) dX10_mute_31 (by decide) (fun _ => ?_) (fun hz => absurd hz (show ¬ _ from (by decide)))
    refine r_iconst (v := nI 0) dX10_mute_38 (by decide) ?_
    refine r_iload_n dX10_mute_39 rfl ?_
    refine r_icmp_ne (tgt := 57) dX10_mute_40 (by decide) (fun _ => ?_) (fun hz => absurd hz (show ¬ _ from (by decide)))
    refine r_aload_n dX10_mute_57 rfl ?_
    refine r_iload_n dX10_mute_58 rfl ?_
    refine r_iconst (v := nI 2) dX10_mute_59 (by decide) ?_
    refine r_aload_n dX10_mute_60 rfl ?_
    refine r_getR dX10_mute_61 fl_X10_23 rfl (kM_0 hM) (pM_7 hM) ?_
    refine r_iload_n dX10_mute_64 rfl ?_
    refine r_iald dX10_mute_65 (aM_7 hM) (nI_in8 8 (by omega) (by decide)) (nI_clamp (by omega)) ?_
    rw [(hLf.1 h hh).2.2, cm, show bz false = nI 0 from rfl]
    refine r_virt (kc2 := 0) (ks2 := 0) (c_X10_keeps m H M h 2 0 e hM hLf okl) lk_X10_389 mc_X10_keeps dX10_mute_66 (kM_0 hM) (by decide) rfl rfl (Nat.le_of_ble_eq_true rfl) (by omega) (by omega) (fun _ _ _ _ _ _ h => nomatch h.1) (fun v1 n1 kd1 I1 J1 P1 h1 => ?_)
    obtain ⟨h00, rfl, rfl, rfl, rfl, hfr, hf0, hrl⟩ := h1
    cases h00
    simp only [Option.toList, List.nil_append]
    refine r_aload_n dX10_mute_69 rfl ?_
    refine r_getR dX10_mute_70 fl_X10_23 rfl (kM_0 hM) (pM_7 hM) ?_
    refine r_iload_n dX10_mute_73 rfl ?_
    refine r_iload_n dX10_mute_74 rfl ?_
    refine r_if_eq (tgt := 82) dX10_mute_75 (by decide) (fun hz => absurd hz (show ¬ _ from (by decide))) (fun _ => ?_)
    refine r_iconst (v := nI 1) dX10_mute_78 (by decide) ?_
    refine r_goto (tgt := 83) dX10_mute_79 (by decide) ?_
    refine r_iast dX10_mute_83 (aM_7 hM) (nI_in8 8 (by omega) (by decide)) (nI_clamp (by omega)) ?_
    refine r_iconst (v := nI 1) dX10_mute_84 (by decide) ?_
    refine r_zret rfl dX10_mute_85 (by first | exact Or.inl rfl | exact Or.inr rfl | assumption) ?_
    have hd : hadE e 2 h = 0 := by rw [had_2, cm]; rfl
    have hr2 := rL_turn (k := 2) (h := h) (v := 1) (fun _ _ => by decide) hrl
    rw [show turnM I1 m 2 h (nI 1) = va_up I1 (m + 4) (va_up (I1 (m + 4)) h (nI 1)) from rfl] at hr2
    refine ⟨rfl, rfl, rfl, rfl, fun a ha => ⟨by rw [am_up_n _ _ (by omega), hfr a (by omega) (by omega)], rfl⟩, by rw [am_up_n _ _ (by omega), hf0 0 (by decide)]; exact h0, RR.up (I := I) (fun a a1 a2 a3 a4 a5 a6 a7 => by rw [am_up_n _ _ a5, hfr a (by omega) (by omega)]) (fun j hj => by rw [am_up_n _ _ (by omega), hf0 j (by omega)]) ?_ hC0⟩
    unfold actE
    rw [hd]
    exact hr2


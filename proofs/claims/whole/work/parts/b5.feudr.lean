/-! FEUDS, the reference, on any state -/
theorem dX10_gainOf_0 : decode cX10_gainOf 0 = .ok (.aload_n 0, 1) := by decide +kernel
theorem dX10_gainOf_1 : decode cX10_gainOf 1 = .ok (.iload_n 1, 1) := by decide +kernel
theorem dX10_gainOf_2 : decode cX10_gainOf 2 = .ok (.invokevirtual 442, 3) := by decide +kernel
theorem dX10_gainOf_5 : decode cX10_gainOf 5 = .ok (.invokestatic 448, 3) := by decide +kernel
theorem dX10_gainOf_8 : decode cX10_gainOf 8 = .ok (.iconst 1, 1) := by decide +kernel
theorem dX10_gainOf_9 : decode cX10_gainOf 9 = .ok (.if_icmp .ne 7, 3) := by decide +kernel
theorem dX10_gainOf_12 : decode cX10_gainOf 12 = .ok (.iconst 2, 1) := by decide +kernel
theorem dX10_gainOf_13 : decode cX10_gainOf 13 = .ok (.goto 4, 3) := by decide +kernel
theorem dX10_gainOf_16 : decode cX10_gainOf 16 = .ok (.iconst 0, 1) := by decide +kernel
theorem dX10_gainOf_17 : decode cX10_gainOf 17 = .ok (.aload_n 0, 1) := by decide +kernel
theorem dX10_gainOf_18 : decode cX10_gainOf 18 = .ok (.iload_n 2, 1) := by decide +kernel
theorem dX10_gainOf_19 : decode cX10_gainOf 19 = .ok (.invokevirtual 442, 3) := by decide +kernel
theorem dX10_gainOf_22 : decode cX10_gainOf 22 = .ok (.invokestatic 448, 3) := by decide +kernel
theorem dX10_gainOf_25 : decode cX10_gainOf 25 = .ok (.iconst 1, 1) := by decide +kernel
theorem dX10_gainOf_26 : decode cX10_gainOf 26 = .ok (.if_icmp .ne 7, 3) := by decide +kernel
theorem dX10_gainOf_29 : decode cX10_gainOf 29 = .ok (.iconst 0, 1) := by decide +kernel
theorem dX10_gainOf_30 : decode cX10_gainOf 30 = .ok (.goto 4, 3) := by decide +kernel
theorem dX10_gainOf_33 : decode cX10_gainOf 33 = .ok (.iconst 1, 1) := by decide +kernel
theorem dX10_gainOf_34 : decode cX10_gainOf 34 = .ok (.iadd, 1) := by decide +kernel
theorem dX10_gainOf_35 : decode cX10_gainOf 35 = .ok (.ireturn, 1) := by decide +kernel

set_option maxHeartbeats 4000000 in
set_option maxRecDepth 100000 in
theorem c_X10_gainOf (m x y H M : Nat) (fs : List (Nat → Nat)) {n : Nat} {kd : mK} {I : mI} {J : mJ} {P : mP} (hM : kM kd P m) (hH8 : H ≤ 8) (hM20 : M ≤ 20) (hF : I m 52 = nI fs.length) (hl : fs.length ≤ 1000) (hr : fRng H M fs) (hx : x < H) (hy : y < H) (hq : ∀ i h, i < fs.length → h < H → I (m + 27) (8 * i + h) = nI (nmF fs i h)) : Ct yX10_gainOf cX10_gainOf 3 (some .int) 3 0 0 [.ref m, .int (nI x), .int (nI y)] n kd I J P (am_is (some (.int (nI (gnN fs x y)))) n kd I J P) := by
  refine ct_of 0 (by decide +kernel) (Nat.le_of_ble_eq_true rfl) rfl ?_
  by_cases c1 : pcF (nI (mayN fs x)) 21 = 1
  · by_cases c2 : pcF (nI (mayN fs y)) 21 = 1
    · skip
      refine r_aload_n dX10_gainOf_0 rfl ?_
      refine r_iload_n dX10_gainOf_1 rfl ?_
      refine r_virtE (c_X10_mayOf m x fs.length hM (by omega) hF hl) lk_X10_442 mc_X10_mayOf dX10_gainOf_2 hM.1 (by decide) rfl rfl (Nat.le_of_ble_eq_true rfl) ?_
      rw [my_of hM20 hx fs _ hr (fun i hi => hq i _ hi hx)]
      refine r_statE (c_X10_bits (nI (mayN fs x))) lk_X10_448 mc_X10_bits dX10_gainOf_5 (by decide) rfl rfl (Nat.le_of_ble_eq_true rfl) ?_
      refine r_iconst (v := nI 1) dX10_gainOf_8 (by decide) ?_
      refine r_icmp_ne (tgt := 16) dX10_gainOf_9 (by decide) (fun hz => absurd (show _ from (by rw [c1])) hz) (fun _ => ?_)
      refine r_iconst (v := nI 2) dX10_gainOf_12 (by decide) ?_
      refine r_goto (tgt := 17) dX10_gainOf_13 (by decide) ?_
      refine r_aload_n dX10_gainOf_17 rfl ?_
      refine r_iload_n dX10_gainOf_18 rfl ?_
      refine r_virtE (c_X10_mayOf m y fs.length hM (by omega) hF hl) lk_X10_442 mc_X10_mayOf dX10_gainOf_19 hM.1 (by decide) rfl rfl (Nat.le_of_ble_eq_true rfl) ?_
      rw [my_of hM20 hy fs _ hr (fun i hi => hq i _ hi hy)]
      refine r_statE (c_X10_bits (nI (mayN fs y))) lk_X10_448 mc_X10_bits dX10_gainOf_22 (by decide) rfl rfl (Nat.le_of_ble_eq_true rfl) ?_
      refine r_iconst (v := nI 1) dX10_gainOf_25 (by decide) ?_
      refine r_icmp_ne (tgt := 33) dX10_gainOf_26 (by decide) (fun hz => absurd (show _ from (by rw [c2])) hz) (fun _ => ?_)
      refine r_iconst (v := nI 0) dX10_gainOf_29 (by decide) ?_
      refine r_goto (tgt := 34) dX10_gainOf_30 (by decide) ?_
      refine r_iadd dX10_gainOf_34 ?_
      rw [nI_add]
      refine r_iret rfl dX10_gainOf_35 ?_
      rw [show gnN fs x y = 2 from by unfold gnN oneN; rw [decide_eq_true c1, decide_eq_true c2]; rfl]
      exact am_is.mk
    · skip
      refine r_aload_n dX10_gainOf_0 rfl ?_
      refine r_iload_n dX10_gainOf_1 rfl ?_
      refine r_virtE (c_X10_mayOf m x fs.length hM (by omega) hF hl) lk_X10_442 mc_X10_mayOf dX10_gainOf_2 hM.1 (by decide) rfl rfl (Nat.le_of_ble_eq_true rfl) ?_
      rw [my_of hM20 hx fs _ hr (fun i hi => hq i _ hi hx)]
      refine r_statE (c_X10_bits (nI (mayN fs x))) lk_X10_448 mc_X10_bits dX10_gainOf_5 (by decide) rfl rfl (Nat.le_of_ble_eq_true rfl) ?_
      refine r_iconst (v := nI 1) dX10_gainOf_8 (by decide) ?_
      refine r_icmp_ne (tgt := 16) dX10_gainOf_9 (by decide) (fun hz => absurd (show _ from (by rw [c1])) hz) (fun _ => ?_)
      refine r_iconst (v := nI 2) dX10_gainOf_12 (by decide) ?_
      refine r_goto (tgt := 17) dX10_gainOf_13 (by decide) ?_
      refine r_aload_n dX10_gainOf_17 rfl ?_
      refine r_iload_n dX10_gainOf_18 rfl ?_
      refine r_virtE (c_X10_mayOf m y fs.length hM (by omega) hF hl) lk_X10_442 mc_X10_mayOf dX10_gainOf_19 hM.1 (by decide) rfl rfl (Nat.le_of_ble_eq_true rfl) ?_
      rw [my_of hM20 hy fs _ hr (fun i hi => hq i _ hi hy)]
      refine r_statE (c_X10_bits (nI (mayN fs y))) lk_X10_448 mc_X10_bits dX10_gainOf_22 (by decide) rfl rfl (Nat.le_of_ble_eq_true rfl) ?_
      refine r_iconst (v := nI 1) dX10_gainOf_25 (by decide) ?_
      refine r_icmp_ne (tgt := 33) dX10_gainOf_26 (by decide) (fun _ => ?_) (fun hz => absurd hz (show ¬ _ from (by have := pcF_le (nI (mayN fs y)) 21; rw [nI_eq (by omega) (by decide)]; exact c2)))
      refine r_iconst (v := nI 1) dX10_gainOf_33 (by decide) ?_
      refine r_iadd dX10_gainOf_34 ?_
      rw [nI_add]
      refine r_iret rfl dX10_gainOf_35 ?_
      rw [show gnN fs x y = 3 from by unfold gnN oneN; rw [decide_eq_true c1, decide_eq_false c2]; rfl]
      exact am_is.mk
  · by_cases c2 : pcF (nI (mayN fs y)) 21 = 1
    · skip
      refine r_aload_n dX10_gainOf_0 rfl ?_
      refine r_iload_n dX10_gainOf_1 rfl ?_
      refine r_virtE (c_X10_mayOf m x fs.length hM (by omega) hF hl) lk_X10_442 mc_X10_mayOf dX10_gainOf_2 hM.1 (by decide) rfl rfl (Nat.le_of_ble_eq_true rfl) ?_
      rw [my_of hM20 hx fs _ hr (fun i hi => hq i _ hi hx)]
      refine r_statE (c_X10_bits (nI (mayN fs x))) lk_X10_448 mc_X10_bits dX10_gainOf_5 (by decide) rfl rfl (Nat.le_of_ble_eq_true rfl) ?_
      refine r_iconst (v := nI 1) dX10_gainOf_8 (by decide) ?_
      refine r_icmp_ne (tgt := 16) dX10_gainOf_9 (by decide) (fun _ => ?_) (fun hz => absurd hz (show ¬ _ from (by have := pcF_le (nI (mayN fs x)) 21; rw [nI_eq (by omega) (by decide)]; exact c1)))
      refine r_iconst (v := nI 0) dX10_gainOf_16 (by decide) ?_
      refine r_aload_n dX10_gainOf_17 rfl ?_
      refine r_iload_n dX10_gainOf_18 rfl ?_
      refine r_virtE (c_X10_mayOf m y fs.length hM (by omega) hF hl) lk_X10_442 mc_X10_mayOf dX10_gainOf_19 hM.1 (by decide) rfl rfl (Nat.le_of_ble_eq_true rfl) ?_
      rw [my_of hM20 hy fs _ hr (fun i hi => hq i _ hi hy)]
      refine r_statE (c_X10_bits (nI (mayN fs y))) lk_X10_448 mc_X10_bits dX10_gainOf_22 (by decide) rfl rfl (Nat.le_of_ble_eq_true rfl) ?_
      refine r_iconst (v := nI 1) dX10_gainOf_25 (by decide) ?_
      refine r_icmp_ne (tgt := 33) dX10_gainOf_26 (by decide) (fun hz => absurd (show _ from (by rw [c2])) hz) (fun _ => ?_)
      refine r_iconst (v := nI 0) dX10_gainOf_29 (by decide) ?_
      refine r_goto (tgt := 34) dX10_gainOf_30 (by decide) ?_
      refine r_iadd dX10_gainOf_34 ?_
      rw [nI_add]
      refine r_iret rfl dX10_gainOf_35 ?_
      rw [show gnN fs x y = 0 from by unfold gnN oneN; rw [decide_eq_false c1, decide_eq_true c2]; rfl]
      exact am_is.mk
    · skip
      refine r_aload_n dX10_gainOf_0 rfl ?_
      refine r_iload_n dX10_gainOf_1 rfl ?_
      refine r_virtE (c_X10_mayOf m x fs.length hM (by omega) hF hl) lk_X10_442 mc_X10_mayOf dX10_gainOf_2 hM.1 (by decide) rfl rfl (Nat.le_of_ble_eq_true rfl) ?_
      rw [my_of hM20 hx fs _ hr (fun i hi => hq i _ hi hx)]
      refine r_statE (c_X10_bits (nI (mayN fs x))) lk_X10_448 mc_X10_bits dX10_gainOf_5 (by decide) rfl rfl (Nat.le_of_ble_eq_true rfl) ?_
      refine r_iconst (v := nI 1) dX10_gainOf_8 (by decide) ?_
      refine r_icmp_ne (tgt := 16) dX10_gainOf_9 (by decide) (fun _ => ?_) (fun hz => absurd hz (show ¬ _ from (by have := pcF_le (nI (mayN fs x)) 21; rw [nI_eq (by omega) (by decide)]; exact c1)))
      refine r_iconst (v := nI 0) dX10_gainOf_16 (by decide) ?_
      refine r_aload_n dX10_gainOf_17 rfl ?_
      refine r_iload_n dX10_gainOf_18 rfl ?_
      refine r_virtE (c_X10_mayOf m y fs.length hM (by omega) hF hl) lk_X10_442 mc_X10_mayOf dX10_gainOf_19 hM.1 (by decide) rfl rfl (Nat.le_of_ble_eq_true rfl) ?_
      rw [my_of hM20 hy fs _ hr (fun i hi => hq i _ hi hy)]
      refine r_statE (c_X10_bits (nI (mayN fs y))) lk_X10_448 mc_X10_bits dX10_gainOf_22 (by decide) rfl rfl (Nat.le_of_ble_eq_true rfl) ?_
      refine r_iconst (v := nI 1) dX10_gainOf_25 (by decide) ?_
      refine r_icmp_ne (tgt := 33) dX10_gainOf_26 (by decide) (fun _ => ?_) (fun hz => absurd hz (show ¬ _ from (by have := pcF_le (nI (mayN fs y)) 21; rw [nI_eq (by omega) (by decide)]; exact c2)))
      refine r_iconst (v := nI 1) dX10_gainOf_33 (by decide) ?_
      refine r_iadd dX10_gainOf_34 ?_
      rw [nI_add]
      refine r_iret rfl dX10_gainOf_35 ?_
      rw [show gnN fs x y = 1 from by unfold gnN oneN; rw [decide_eq_false c1, decide_eq_false c2]; rfl]
      exact am_is.mk


set_option maxHeartbeats 4000000 in
set_option maxRecDepth 100000 in
theorem q_feud_no2 (m : Nat) (h1 : Nat) (y z : Int32) {t : Nat} {T : Nat → Nat} {fp : Int32} {rr : Nat → Int32} {H M : Nat} {un : Bool} {cs : Nat → List Nat} {tx : Nat → List Int32} {e : Lf} {im : Option Lf} {wk : Option (List Nat)} {n : Nat} {kd : mK} {I : mI} {J : mJ} {P : mP} (hC : RR m kd I P t T fp rr H M un cs tx e im wk) (hz : okZ t T H M cs e) (ha : h1 < H) (hy : (!decide (y < 0) && decide (y < nI H)) = false) : Ct yX10_feud cX10_feud 7 (some .int) 10 0 0 [.ref m, .int (nI h1), .int y, .int z] n kd I J P (pQ m n kd I J P (some (.int (nI 0))) 1 (RX m t T fp rr H M un cs tx e im wk)) := by
  refine ct_of 3 (by decide +kernel) (Nat.le_of_ble_eq_true rfl) rfl ?_
  refine r_aload_n dX10_feud_0 rfl ?_
  refine r_iconst (v := nI 0) dX10_feud_1 (by decide) ?_
  refine r_putI dX10_feud_2 fl_X10_193 rfl rfl (kM_0 hC.1) ?_
  refine q_th hC (fun I hC h0 => ?_)
  have hC0 := hC
  have hz0 := hz
  obtain ⟨hM, hT, hSt, hLf, hIm, hWk⟩ := hC
  obtain ⟨okt, oks, okl⟩ := hz
  have hH8 : H ≤ 8 := oks.2.1
  have hM20 : 2 ≤ M ∧ M ≤ 20 := oks.1
  have hH : I m 1 = nI H := hSt.1.1
  have hMo : I m 2 = nI M := hSt.1.2.1
  refine r_aload_n dX10_feud_5 rfl ?_
  refine r_iload_n dX10_feud_6 rfl ?_
  refine r_virtE (c_X10_isHouse m (nI h1) hM h0) lk_X10_373 mc_X10_isHouse dX10_feud_7 (kM_0 hM) (by decide) rfl rfl (Nat.le_of_ble_eq_true rfl) ?_
  rw [show (!decide (nI h1 < 0) && decide (nI h1 < I m 1)) = true from by rw [hH]; exact (isH_of ha (by omega)), thM_ok]
  refine r_if_eq (tgt := 47) dX10_feud_10 (by decide) (fun hz => absurd hz (show ¬ _ from (by decide))) (fun _ => ?_)
  refine r_aload_n dX10_feud_13 rfl ?_
  refine r_iload_n dX10_feud_14 rfl ?_
  refine r_virtE (c_X10_isHouse m (y) hM h0) lk_X10_373 mc_X10_isHouse dX10_feud_15 (kM_0 hM) (by decide) rfl rfl (Nat.le_of_ble_eq_true rfl) ?_
  rw [show (!decide (y < 0) && decide (y < I m 1)) = false from by rw [hH]; exact hy]
  refine r_if_eq (tgt := 47) dX10_feud_18 (by decide) (fun _ => ?_) (fun hz => absurd (show _ from rfl) hz)
  refine r_iconst (v := nI 0) dX10_feud_47 (by decide) ?_
  refine r_iret rfl dX10_feud_48 ?_
  exact pQ.th hC0 am_is.mk

set_option maxHeartbeats 4000000 in
set_option maxRecDepth 100000 in
theorem q_feud_no (m : Nat) (h1 h2 : Nat) (z : Int32) {t : Nat} {T : Nat → Nat} {fp : Int32} {rr : Nat → Int32} {H M : Nat} {un : Bool} {cs : Nat → List Nat} {tx : Nat → List Int32} {e : Lf} {im : Option Lf} {wk : Option (List Nat)} {n : Nat} {kd : mK} {I : mI} {J : mJ} {P : mP} (hC : RR m kd I P t T fp rr H M un cs tx e im wk) (hz : okZ t T H M cs e) (ha : h1 < H) (hb : h2 < H) (hy : (!decide (z < 0) && decide (z < nI 2)) = false) : Ct yX10_feud cX10_feud 7 (some .int) 10 0 0 [.ref m, .int (nI h1), .int (nI h2), .int z] n kd I J P (pQ m n kd I J P (some (.int (nI 0))) 1 (RX m t T fp rr H M un cs tx e im wk)) := by
  refine ct_of 3 (by decide +kernel) (Nat.le_of_ble_eq_true rfl) rfl ?_
  refine r_aload_n dX10_feud_0 rfl ?_
  refine r_iconst (v := nI 0) dX10_feud_1 (by decide) ?_
  refine r_putI dX10_feud_2 fl_X10_193 rfl rfl (kM_0 hC.1) ?_
  refine q_th hC (fun I hC h0 => ?_)
  have hC0 := hC
  have hz0 := hz
  obtain ⟨hM, hT, hSt, hLf, hIm, hWk⟩ := hC
  obtain ⟨okt, oks, okl⟩ := hz
  have hH8 : H ≤ 8 := oks.2.1
  have hM20 : 2 ≤ M ∧ M ≤ 20 := oks.1
  have hH : I m 1 = nI H := hSt.1.1
  have hMo : I m 2 = nI M := hSt.1.2.1
  refine r_aload_n dX10_feud_5 rfl ?_
  refine r_iload_n dX10_feud_6 rfl ?_
  refine r_virtE (c_X10_isHouse m (nI h1) hM h0) lk_X10_373 mc_X10_isHouse dX10_feud_7 (kM_0 hM) (by decide) rfl rfl (Nat.le_of_ble_eq_true rfl) ?_
  rw [show (!decide (nI h1 < 0) && decide (nI h1 < I m 1)) = true from by rw [hH]; exact (isH_of ha (by omega)), thM_ok]
  refine r_if_eq (tgt := 47) dX10_feud_10 (by decide) (fun hz => absurd hz (show ¬ _ from (by decide))) (fun _ => ?_)
  refine r_aload_n dX10_feud_13 rfl ?_
  refine r_iload_n dX10_feud_14 rfl ?_
  refine r_virtE (c_X10_isHouse m (nI h2) hM h0) lk_X10_373 mc_X10_isHouse dX10_feud_15 (kM_0 hM) (by decide) rfl rfl (Nat.le_of_ble_eq_true rfl) ?_
  rw [show (!decide (nI h2 < 0) && decide (nI h2 < I m 1)) = true from by rw [hH]; exact (isH_of hb (by omega)), thM_ok]
  refine r_if_eq (tgt := 47) dX10_feud_18 (by decide) (fun hz => absurd hz (show ¬ _ from (by decide))) (fun _ => ?_)
  refine r_aload_n dX10_feud_21 rfl ?_
  refine r_iload_n dX10_feud_22 rfl ?_
  refine r_virtE (c_X10_isTwo m (z) hM h0) lk_X10_379 mc_X10_isTwo dX10_feud_23 (kM_0 hM) (by decide) rfl rfl (Nat.le_of_ble_eq_true rfl) ?_
  rw [show (decide (z = 0) || decide (z = nI 1)) = false from two_no hy]
  refine r_if_eq (tgt := 47) dX10_feud_26 (by decide) (fun _ => ?_) (fun hz => absurd (show _ from rfl) hz)
  refine r_iconst (v := nI 0) dX10_feud_47 (by decide) ?_
  refine r_iret rfl dX10_feud_48 ?_
  exact pQ.th hC0 am_is.mk

set_option maxHeartbeats 4000000 in
set_option maxRecDepth 100000 in
theorem q_feud_same (m : Nat) (h1 k : Nat) {t : Nat} {T : Nat → Nat} {fp : Int32} {rr : Nat → Int32} {H M : Nat} {un : Bool} {cs : Nat → List Nat} {tx : Nat → List Int32} {e : Lf} {im : Option Lf} {wk : Option (List Nat)} {n : Nat} {kd : mK} {I : mI} {J : mJ} {P : mP} (hC : RR m kd I P t T fp rr H M un cs tx e im wk) (hz : okZ t T H M cs e) (ha : h1 < H) (hk2 : k < 2) : Ct yX10_feud cX10_feud 7 (some .int) 10 0 0 [.ref m, .int (nI h1), .int (nI h1), .int (nI k)] n kd I J P (pQ m n kd I J P (some (.int (nI 0))) 2 (RX m t T fp rr H M un cs tx e im wk)) := by
  refine ct_of 3 (by decide +kernel) (Nat.le_of_ble_eq_true rfl) rfl ?_
  refine r_aload_n dX10_feud_0 rfl ?_
  refine r_iconst (v := nI 0) dX10_feud_1 (by decide) ?_
  refine r_putI dX10_feud_2 fl_X10_193 rfl rfl (kM_0 hC.1) ?_
  refine q_th hC (fun I hC h0 => ?_)
  have hC0 := hC
  have hz0 := hz
  obtain ⟨hM, hT, hSt, hLf, hIm, hWk⟩ := hC
  obtain ⟨okt, oks, okl⟩ := hz
  have hH8 : H ≤ 8 := oks.2.1
  have hM20 : 2 ≤ M ∧ M ≤ 20 := oks.1
  have hH : I m 1 = nI H := hSt.1.1
  have hMo : I m 2 = nI M := hSt.1.2.1
  have hb := ha
  refine r_aload_n dX10_feud_5 rfl ?_
  refine r_iload_n dX10_feud_6 rfl ?_
  refine r_virtE (c_X10_isHouse m (nI h1) hM h0) lk_X10_373 mc_X10_isHouse dX10_feud_7 (kM_0 hM) (by decide) rfl rfl (Nat.le_of_ble_eq_true rfl) ?_
  rw [show (!decide (nI h1 < 0) && decide (nI h1 < I m 1)) = true from by rw [hH]; exact (isH_of ha (by omega)), thM_ok]
  refine r_if_eq (tgt := 47) dX10_feud_10 (by decide) (fun hz => absurd hz (show ¬ _ from (by decide))) (fun _ => ?_)
  refine r_aload_n dX10_feud_13 rfl ?_
  refine r_iload_n dX10_feud_14 rfl ?_
  refine r_virtE (c_X10_isHouse m (nI h1) hM h0) lk_X10_373 mc_X10_isHouse dX10_feud_15 (kM_0 hM) (by decide) rfl rfl (Nat.le_of_ble_eq_true rfl) ?_
  rw [show (!decide (nI h1 < 0) && decide (nI h1 < I m 1)) = true from by rw [hH]; exact (isH_of hb (by omega)), thM_ok]
  refine r_if_eq (tgt := 47) dX10_feud_18 (by decide) (fun hz => absurd hz (show ¬ _ from (by decide))) (fun _ => ?_)
  refine r_aload_n dX10_feud_21 rfl ?_
  refine r_iload_n dX10_feud_22 rfl ?_
  refine r_virtE (c_X10_isTwo m (nI k) hM h0) lk_X10_379 mc_X10_isTwo dX10_feud_23 (kM_0 hM) (by decide) rfl rfl (Nat.le_of_ble_eq_true rfl) ?_
  rw [show (decide (nI k = 0) || decide (nI k = nI 1)) = true from two_of hk2, thM_ok]
  refine r_if_eq (tgt := 47) dX10_feud_26 (by decide) (fun hz => absurd hz (show ¬ _ from (by decide))) (fun _ => ?_)
  refine r_aload_n dX10_feud_29 rfl ?_
  refine r_iload_n dX10_feud_30 rfl ?_
  refine r_iload_n dX10_feud_31 rfl ?_
  refine r_icmp_eq (tgt := 39) dX10_feud_32 (by decide) (fun _ => ?_) (fun hz => absurd (show _ from rfl) hz)
  refine r_iconst (v := nI 0) dX10_feud_39 (by decide) ?_
  refine r_iconst (v := nI 2) dX10_feud_40 (by decide) ?_
  refine r_virtE (c_X10_right m false (nI 2) hM h0 (by decide)) lk_X10_343 mc_X10_right dX10_feud_41 (kM_0 hM) (by decide) rfl rfl (Nat.le_of_ble_eq_true rfl) ?_
  refine r_if_ne (tgt := 49) dX10_feud_44 (by decide) (fun hz => absurd (show _ from rfl) hz) (fun _ => ?_)
  refine r_iconst (v := nI 0) dX10_feud_47 (by decide) ?_
  refine r_iret rfl dX10_feud_48 ?_
  exact pQ.th hC0 am_is.mk

set_option maxHeartbeats 4000000 in
set_option maxRecDepth 100000 in
theorem w_feudR2 (m h1 h2 kw : Nat) {H M : Nat} {un : Bool} {cs : Nat → List Nat} {e : Lf} {post : am_Post} {n : Nat} {kd : mK} {I : mI} {J : mJ} {P : mP} (hM : kM kd P m) (hH : I m 1 = nI H) (hro : (∀ j, j < 4 → I (m + 32) (2 * j) = nI (g1N H M un cs e h1 h2 j) ∧ I (m + 32) (2 * j + 1) = nI (g2N H M un cs e h1 h2 j))) (hE : Ru yX10_feud.cls cX10_feud 7 (some .int) yX10_feud.name 10 (post) 0 0 223 [some (.ref m), some (.int (nI h1)), some (.int (nI h2)), some (.int (nI kw)), some (.int (nI (rsC (g1N H M un cs e h1 h2) (g2N H M un cs e h1 h2) 4))), some (.int (rsF (g1N H M un cs e h1 h2) (g2N H M un cs e h1 h2) 4)), some (.int (nI 4))] [] n kd I J P) : ∀ (c j : Nat), j + c = 4 → Ru yX10_feud.cls cX10_feud 7 (some .int) yX10_feud.name 10 (post) 0 0 145 [some (.ref m), some (.int (nI h1)), some (.int (nI h2)), some (.int (nI kw)), some (.int (nI (rsC (g1N H M un cs e h1 h2) (g2N H M un cs e h1 h2) j))), some (.int (rsF (g1N H M un cs e h1 h2) (g2N H M un cs e h1 h2) j)), some (.int (nI j))] [] n kd I J P
  | 0, j, hc => by
    rw [show j = 4 by omega]
    refine r_iload dX10_feud_145 rfl ?_
    refine r_iconst (v := nI 4) dX10_feud_147 (by decide) ?_
    refine r_icmp_ge (tgt := 223) dX10_feud_148 (by decide) (fun _ => ?_) (fun hz => absurd (show _ from (by rw [nI_leI (by omega) (by omega)]; omega)) hz)
    exact hE
  | c + 1, j, hc => by
    have l0 : ∀ x, g1N H M un cs e h1 h2 x ≤ 3 := fun x => gnN_le _ _ _
    have l9 : ∀ x, g2N H M un cs e h1 h2 x ≤ 3 := fun x => gnN_le _ _ _
    have l1 := l0 (j ^^^ 2)
    have l2 := l0 j
    have l3 := l9 (j ^^^ 1)
    have l4 := l9 j
    have hx1 := xor_lt4 (show j < 4 by omega) (show 1 < 4 by decide)
    have hx2 := xor_lt4 (show j < 4 by omega) (show 2 < 4 by decide)
    by_cases b1 : g1N H M un cs e h1 h2 (j ^^^ 2) ≤ g1N H M un cs e h1 h2 j
    · by_cases b2 : g2N H M un cs e h1 h2 (j ^^^ 1) ≤ g2N H M un cs e h1 h2 j
      · have hr : rsB (g1N H M un cs e h1 h2) (g2N H M un cs e h1 h2) j = true := by unfold rsB; rw [decide_eq_true b1, decide_eq_true b2]; rfl
        by_cases hf : rsF (g1N H M un cs e h1 h2) (g2N H M un cs e h1 h2) j = -1
        · skip
          refine r_iload dX10_feud_145 rfl ?_
          refine r_iconst (v := nI 4) dX10_feud_147 (by decide) ?_
          refine r_icmp_ge (tgt := 223) dX10_feud_148 (by decide) (fun hz => absurd hz (show ¬ _ from (by rw [nI_leI (by omega) (by omega)]; omega))) (fun _ => ?_)
          refine r_aload_n dX10_feud_151 rfl ?_
          refine r_getR dX10_feud_152 fl_X10_118 rfl hM.1 (pM_64 hM) ?_
          refine r_iconst (v := nI 2) dX10_feud_155 (by decide) ?_
          refine r_iload dX10_feud_156 rfl ?_
          refine r_iconst (v := nI 2) dX10_feud_158 (by decide) ?_
          refine r_ixor dX10_feud_159 ?_
          rw [xor_nI]
          refine r_imul dX10_feud_160 ?_
          rw [pk_mul]
          refine r_iald dX10_feud_161 (aM_64 hM) (nI_in8 8 (by omega) (by decide)) (nI_clamp (by omega)) ?_
          rw [(hro (j ^^^ 2) (by omega)).1]
          refine r_aload_n dX10_feud_162 rfl ?_
          refine r_getR dX10_feud_163 fl_X10_118 rfl hM.1 (pM_64 hM) ?_
          refine r_iconst (v := nI 2) dX10_feud_166 (by decide) ?_
          refine r_iload dX10_feud_167 rfl ?_
          refine r_imul dX10_feud_169 ?_
          rw [pk_mul]
          refine r_iald dX10_feud_170 (aM_64 hM) (nI_in8 8 (by omega) (by decide)) (nI_clamp (by omega)) ?_
          rw [(hro j (by omega)).1]
          refine r_icmp_gt (tgt := 217) dX10_feud_171 (by decide) (fun hz => absurd hz (show ¬ _ from (by rw [nI_ltI (by omega) (by omega)]; omega))) (fun _ => ?_)
          refine r_aload_n dX10_feud_174 rfl ?_
          refine r_getR dX10_feud_175 fl_X10_118 rfl hM.1 (pM_64 hM) ?_
          refine r_iconst (v := nI 2) dX10_feud_178 (by decide) ?_
          refine r_iload dX10_feud_179 rfl ?_
          refine r_iconst (v := nI 1) dX10_feud_181 (by decide) ?_
          refine r_ixor dX10_feud_182 ?_
          rw [xor_nI]
          refine r_imul dX10_feud_183 ?_
          rw [pk_mul]
          refine r_iconst (v := nI 1) dX10_feud_184 (by decide) ?_
          refine r_iadd dX10_feud_185 ?_
          rw [nI_add]
          refine r_iald dX10_feud_186 (aM_64 hM) (nI_in8 8 (by omega) (by decide)) (nI_clamp (by omega)) ?_
          rw [(hro (j ^^^ 1) (by omega)).2]
          refine r_aload_n dX10_feud_187 rfl ?_
          refine r_getR dX10_feud_188 fl_X10_118 rfl hM.1 (pM_64 hM) ?_
          refine r_iconst (v := nI 2) dX10_feud_191 (by decide) ?_
          refine r_iload dX10_feud_192 rfl ?_
          refine r_imul dX10_feud_194 ?_
          rw [pk_mul]
          refine r_iconst (v := nI 1) dX10_feud_195 (by decide) ?_
          refine r_iadd dX10_feud_196 ?_
          rw [nI_add]
          refine r_iald dX10_feud_197 (aM_64 hM) (nI_in8 8 (by omega) (by decide)) (nI_clamp (by omega)) ?_
          rw [(hro j (by omega)).2]
          refine r_icmp_le (tgt := 204) dX10_feud_198 (by decide) (fun _ => ?_) (fun hz => absurd (show _ from (by rw [nI_leI (by omega) (by omega)]; omega)) hz)
          refine r_iinc (v := nI (rsC (g1N H M un cs e h1 h2) (g2N H M un cs e h1 h2) j + 1)) dX10_feud_204 rfl (nI_inc _) ?_
          refine r_iload dX10_feud_207 rfl ?_
          refine r_iconst (v := (-1)) dX10_feud_209 (by decide) ?_
          refine r_icmp_ne (tgt := 217) dX10_feud_210 (by decide) (fun hz => absurd (show _ from hf) hz) (fun _ => ?_)
          refine r_iload dX10_feud_213 rfl ?_
          refine r_istore dX10_feud_215 (by decide) ?_
          refine r_iinc (v := nI (j + 1)) dX10_feud_217 rfl (nI_inc j) ?_
          refine r_goto (tgt := 145) dX10_feud_220 (by decide) ?_
          have hx := w_feudR2 m h1 h2 kw hM hH hro hE c (j + 1) (by omega)
          rw [show rsC (g1N H M un cs e h1 h2) (g2N H M un cs e h1 h2) (j + 1) = rsC (g1N H M un cs e h1 h2) (g2N H M un cs e h1 h2) j + 1 from by show rsC _ _ j + (if rsB _ _ j = true then 1 else 0) = _; rw [hr]; rfl, show rsF (g1N H M un cs e h1 h2) (g2N H M un cs e h1 h2) (j + 1) = nI j from by show (if rsF _ _ j = -1 then _ else rsF _ _ j) = _; rw [if_pos hf, if_pos hr]] at hx
          exact hx
        · skip
          refine r_iload dX10_feud_145 rfl ?_
          refine r_iconst (v := nI 4) dX10_feud_147 (by decide) ?_
          refine r_icmp_ge (tgt := 223) dX10_feud_148 (by decide) (fun hz => absurd hz (show ¬ _ from (by rw [nI_leI (by omega) (by omega)]; omega))) (fun _ => ?_)
          refine r_aload_n dX10_feud_151 rfl ?_
          refine r_getR dX10_feud_152 fl_X10_118 rfl hM.1 (pM_64 hM) ?_
          refine r_iconst (v := nI 2) dX10_feud_155 (by decide) ?_
          refine r_iload dX10_feud_156 rfl ?_
          refine r_iconst (v := nI 2) dX10_feud_158 (by decide) ?_
          refine r_ixor dX10_feud_159 ?_
          rw [xor_nI]
          refine r_imul dX10_feud_160 ?_
          rw [pk_mul]
          refine r_iald dX10_feud_161 (aM_64 hM) (nI_in8 8 (by omega) (by decide)) (nI_clamp (by omega)) ?_
          rw [(hro (j ^^^ 2) (by omega)).1]
          refine r_aload_n dX10_feud_162 rfl ?_
          refine r_getR dX10_feud_163 fl_X10_118 rfl hM.1 (pM_64 hM) ?_
          refine r_iconst (v := nI 2) dX10_feud_166 (by decide) ?_
          refine r_iload dX10_feud_167 rfl ?_
          refine r_imul dX10_feud_169 ?_
          rw [pk_mul]
          refine r_iald dX10_feud_170 (aM_64 hM) (nI_in8 8 (by omega) (by decide)) (nI_clamp (by omega)) ?_
          rw [(hro j (by omega)).1]
          refine r_icmp_gt (tgt := 217) dX10_feud_171 (by decide) (fun hz => absurd hz (show ¬ _ from (by rw [nI_ltI (by omega) (by omega)]; omega))) (fun _ => ?_)
          refine r_aload_n dX10_feud_174 rfl ?_
          refine r_getR dX10_feud_175 fl_X10_118 rfl hM.1 (pM_64 hM) ?_
          refine r_iconst (v := nI 2) dX10_feud_178 (by decide) ?_
          refine r_iload dX10_feud_179 rfl ?_
          refine r_iconst (v := nI 1) dX10_feud_181 (by decide) ?_
          refine r_ixor dX10_feud_182 ?_
          rw [xor_nI]
          refine r_imul dX10_feud_183 ?_
          rw [pk_mul]
          refine r_iconst (v := nI 1) dX10_feud_184 (by decide) ?_
          refine r_iadd dX10_feud_185 ?_
          rw [nI_add]
          refine r_iald dX10_feud_186 (aM_64 hM) (nI_in8 8 (by omega) (by decide)) (nI_clamp (by omega)) ?_
          rw [(hro (j ^^^ 1) (by omega)).2]
          refine r_aload_n dX10_feud_187 rfl ?_
          refine r_getR dX10_feud_188 fl_X10_118 rfl hM.1 (pM_64 hM) ?_
          refine r_iconst (v := nI 2) dX10_feud_191 (by decide) ?_
          refine r_iload dX10_feud_192 rfl ?_
          refine r_imul dX10_feud_194 ?_
          rw [pk_mul]
          refine r_iconst (v := nI 1) dX10_feud_195 (by decide) ?_
          refine r_iadd dX10_feud_196 ?_
          rw [nI_add]
          refine r_iald dX10_feud_197 (aM_64 hM) (nI_in8 8 (by omega) (by decide)) (nI_clamp (by omega)) ?_
          rw [(hro j (by omega)).2]
          refine r_icmp_le (tgt := 204) dX10_feud_198 (by decide) (fun _ => ?_) (fun hz => absurd (show _ from (by rw [nI_leI (by omega) (by omega)]; omega)) hz)
          refine r_iinc (v := nI (rsC (g1N H M un cs e h1 h2) (g2N H M un cs e h1 h2) j + 1)) dX10_feud_204 rfl (nI_inc _) ?_
          refine r_iload dX10_feud_207 rfl ?_
          refine r_iconst (v := (-1)) dX10_feud_209 (by decide) ?_
          refine r_icmp_ne (tgt := 217) dX10_feud_210 (by decide) (fun _ => ?_) (fun hz => absurd hz (show ¬ _ from hf))
          refine r_iinc (v := nI (j + 1)) dX10_feud_217 rfl (nI_inc j) ?_
          refine r_goto (tgt := 145) dX10_feud_220 (by decide) ?_
          have hx := w_feudR2 m h1 h2 kw hM hH hro hE c (j + 1) (by omega)
          rw [show rsC (g1N H M un cs e h1 h2) (g2N H M un cs e h1 h2) (j + 1) = rsC (g1N H M un cs e h1 h2) (g2N H M un cs e h1 h2) j + 1 from by show rsC _ _ j + (if rsB _ _ j = true then 1 else 0) = _; rw [hr]; rfl, show rsF (g1N H M un cs e h1 h2) (g2N H M un cs e h1 h2) (j + 1) = rsF (g1N H M un cs e h1 h2) (g2N H M un cs e h1 h2) j from by show (if rsF _ _ j = -1 then _ else rsF _ _ j) = _; rw [if_neg hf]] at hx
          exact hx
      · have hr : rsB (g1N H M un cs e h1 h2) (g2N H M un cs e h1 h2) j = false := by unfold rsB; rw [decide_eq_false b2, Bool.and_false]
        refine r_iload dX10_feud_145 rfl ?_
        refine r_iconst (v := nI 4) dX10_feud_147 (by decide) ?_
        refine r_icmp_ge (tgt := 223) dX10_feud_148 (by decide) (fun hz => absurd hz (show ¬ _ from (by rw [nI_leI (by omega) (by omega)]; omega))) (fun _ => ?_)
        refine r_aload_n dX10_feud_151 rfl ?_
        refine r_getR dX10_feud_152 fl_X10_118 rfl hM.1 (pM_64 hM) ?_
        refine r_iconst (v := nI 2) dX10_feud_155 (by decide) ?_
        refine r_iload dX10_feud_156 rfl ?_
        refine r_iconst (v := nI 2) dX10_feud_158 (by decide) ?_
        refine r_ixor dX10_feud_159 ?_
        rw [xor_nI]
        refine r_imul dX10_feud_160 ?_
        rw [pk_mul]
        refine r_iald dX10_feud_161 (aM_64 hM) (nI_in8 8 (by omega) (by decide)) (nI_clamp (by omega)) ?_
        rw [(hro (j ^^^ 2) (by omega)).1]
        refine r_aload_n dX10_feud_162 rfl ?_
        refine r_getR dX10_feud_163 fl_X10_118 rfl hM.1 (pM_64 hM) ?_
        refine r_iconst (v := nI 2) dX10_feud_166 (by decide) ?_
        refine r_iload dX10_feud_167 rfl ?_
        refine r_imul dX10_feud_169 ?_
        rw [pk_mul]
        refine r_iald dX10_feud_170 (aM_64 hM) (nI_in8 8 (by omega) (by decide)) (nI_clamp (by omega)) ?_
        rw [(hro j (by omega)).1]
        refine r_icmp_gt (tgt := 217) dX10_feud_171 (by decide) (fun hz => absurd hz (show ¬ _ from (by rw [nI_ltI (by omega) (by omega)]; omega))) (fun _ => ?_)
        refine r_aload_n dX10_feud_174 rfl ?_
        refine r_getR dX10_feud_175 fl_X10_118 rfl hM.1 (pM_64 hM) ?_
        refine r_iconst (v := nI 2) dX10_feud_178 (by decide) ?_
        refine r_iload dX10_feud_179 rfl ?_
        refine r_iconst (v := nI 1) dX10_feud_181 (by decide) ?_
        refine r_ixor dX10_feud_182 ?_
        rw [xor_nI]
        refine r_imul dX10_feud_183 ?_
        rw [pk_mul]
        refine r_iconst (v := nI 1) dX10_feud_184 (by decide) ?_
        refine r_iadd dX10_feud_185 ?_
        rw [nI_add]
        refine r_iald dX10_feud_186 (aM_64 hM) (nI_in8 8 (by omega) (by decide)) (nI_clamp (by omega)) ?_
        rw [(hro (j ^^^ 1) (by omega)).2]
        refine r_aload_n dX10_feud_187 rfl ?_
        refine r_getR dX10_feud_188 fl_X10_118 rfl hM.1 (pM_64 hM) ?_
        refine r_iconst (v := nI 2) dX10_feud_191 (by decide) ?_
        refine r_iload dX10_feud_192 rfl ?_
        refine r_imul dX10_feud_194 ?_
        rw [pk_mul]
        refine r_iconst (v := nI 1) dX10_feud_195 (by decide) ?_
        refine r_iadd dX10_feud_196 ?_
        rw [nI_add]
        refine r_iald dX10_feud_197 (aM_64 hM) (nI_in8 8 (by omega) (by decide)) (nI_clamp (by omega)) ?_
        rw [(hro j (by omega)).2]
        refine r_icmp_le (tgt := 204) dX10_feud_198 (by decide) (fun hz => absurd hz (show ¬ _ from (by rw [nI_leI (by omega) (by omega)]; omega))) (fun _ => ?_)
        refine r_goto (tgt := 217) dX10_feud_201 (by decide) ?_
        refine r_iinc (v := nI (j + 1)) dX10_feud_217 rfl (nI_inc j) ?_
        refine r_goto (tgt := 145) dX10_feud_220 (by decide) ?_
        have hx := w_feudR2 m h1 h2 kw hM hH hro hE c (j + 1) (by omega)
        have hff : rsF (g1N H M un cs e h1 h2) (g2N H M un cs e h1 h2) (j + 1) = rsF (g1N H M un cs e h1 h2) (g2N H M un cs e h1 h2) j := by
          show (if rsF _ _ j = -1 then _ else rsF _ _ j) = _
          by_cases hf : rsF (g1N H M un cs e h1 h2) (g2N H M un cs e h1 h2) j = -1
          · rw [if_pos hf, if_neg (by rw [hr]; decide), hf]
          · rw [if_neg hf]
        rw [show rsC (g1N H M un cs e h1 h2) (g2N H M un cs e h1 h2) (j + 1) = rsC (g1N H M un cs e h1 h2) (g2N H M un cs e h1 h2) j + 0 from by show rsC _ _ j + (if rsB _ _ j = true then 1 else 0) = _; rw [hr]; rfl, Nat.add_zero, hff] at hx
        exact hx
    · have hr : rsB (g1N H M un cs e h1 h2) (g2N H M un cs e h1 h2) j = false := by unfold rsB; rw [decide_eq_false b1]; rfl
      refine r_iload dX10_feud_145 rfl ?_
      refine r_iconst (v := nI 4) dX10_feud_147 (by decide) ?_
      refine r_icmp_ge (tgt := 223) dX10_feud_148 (by decide) (fun hz => absurd hz (show ¬ _ from (by rw [nI_leI (by omega) (by omega)]; omega))) (fun _ => ?_)
      refine r_aload_n dX10_feud_151 rfl ?_
      refine r_getR dX10_feud_152 fl_X10_118 rfl hM.1 (pM_64 hM) ?_
      refine r_iconst (v := nI 2) dX10_feud_155 (by decide) ?_
      refine r_iload dX10_feud_156 rfl ?_
      refine r_iconst (v := nI 2) dX10_feud_158 (by decide) ?_
      refine r_ixor dX10_feud_159 ?_
      rw [xor_nI]
      refine r_imul dX10_feud_160 ?_
      rw [pk_mul]
      refine r_iald dX10_feud_161 (aM_64 hM) (nI_in8 8 (by omega) (by decide)) (nI_clamp (by omega)) ?_
      rw [(hro (j ^^^ 2) (by omega)).1]
      refine r_aload_n dX10_feud_162 rfl ?_
      refine r_getR dX10_feud_163 fl_X10_118 rfl hM.1 (pM_64 hM) ?_
      refine r_iconst (v := nI 2) dX10_feud_166 (by decide) ?_
      refine r_iload dX10_feud_167 rfl ?_
      refine r_imul dX10_feud_169 ?_
      rw [pk_mul]
      refine r_iald dX10_feud_170 (aM_64 hM) (nI_in8 8 (by omega) (by decide)) (nI_clamp (by omega)) ?_
      rw [(hro j (by omega)).1]
      refine r_icmp_gt (tgt := 217) dX10_feud_171 (by decide) (fun _ => ?_) (fun hz => absurd (show _ from (by rw [nI_ltI (by omega) (by omega)]; omega)) hz)
      refine r_iinc (v := nI (j + 1)) dX10_feud_217 rfl (nI_inc j) ?_
      refine r_goto (tgt := 145) dX10_feud_220 (by decide) ?_
      have hx := w_feudR2 m h1 h2 kw hM hH hro hE c (j + 1) (by omega)
      have hff : rsF (g1N H M un cs e h1 h2) (g2N H M un cs e h1 h2) (j + 1) = rsF (g1N H M un cs e h1 h2) (g2N H M un cs e h1 h2) j := by
        show (if rsF _ _ j = -1 then _ else rsF _ _ j) = _
        by_cases hf : rsF (g1N H M un cs e h1 h2) (g2N H M un cs e h1 h2) j = -1
        · rw [if_pos hf, if_neg (by rw [hr]; decide), hf]
        · rw [if_neg hf]
      rw [show rsC (g1N H M un cs e h1 h2) (g2N H M un cs e h1 h2) (j + 1) = rsC (g1N H M un cs e h1 h2) (g2N H M un cs e h1 h2) j + 0 from by show rsC _ _ j + (if rsB _ _ j = true then 1 else 0) = _; rw [hr]; rfl, Nat.add_zero, hff] at hx
      exact hx

set_option maxHeartbeats 4000000 in
set_option maxRecDepth 100000 in
theorem w_feudR1 (m h1 h2 kw : Nat) {t : Nat} {T : Nat → Nat} {fp : Int32} {rr : Nat → Int32} {H M : Nat} {un : Bool} {cs : Nat → List Nat} {tx : Nat → List Int32} {e : Lf} {im : Option Lf} {wk : Option (List Nat)} {n : Nat} {kd : mK} {J : mJ} {P : mP} {I0 : mI} {post : am_Post} {al : Bool} (ha : h1 < H) (hb : h2 < H) (hz : okZ t T H M cs e) (hEn : al = true → (∀ (z5 z6 : Option Value) (I' : mI), (∀ a, (a < m ∨ m + 55 < a) → I' a = I0 a) → I' m 0 = 0 → RR m kd I' P t T fp rr H M un cs tx e im wk → (∀ j, j < 4 → I' (m + 32) (2 * j) = nI (g1N H M un cs e h1 h2 j) ∧ I' (m + 32) (2 * j + 1) = nI (g2N H M un cs e h1 h2 j)) → Ru yX10_feud.cls cX10_feud 7 (some .int) yX10_feud.name 10 (post) 0 0 136 [some (.ref m), some (.int (nI h1)), some (.int (nI h2)), some (.int (nI kw)), some (.int (nI 4)), z5, z6] [] n kd I' J P)) (hnO : al = false → (∀ I' : mI, (∀ a, (a < m ∨ m + 55 < a) → I' a = I0 a) → I' m 0 = 0 → RR m kd I' P t T fp rr H M un cs tx e im wk → post (.inl (some (.int (-2)))) n kd I' J P)) : ∀ (c c4 : Nat) (z5 z6 : Option Value) (I : mI), c4 + c = 4 → RR m kd I P t T fp rr H M un cs tx e im wk → I m 0 = 0 → (∀ a, (a < m ∨ m + 55 < a) → I a = I0 a) → (∀ j, j < c4 → I (m + 32) (2 * j) = nI (g1N H M un cs e h1 h2 j) ∧ I (m + 32) (2 * j + 1) = nI (g2N H M un cs e h1 h2 j)) → fdA H M un cs e h1 h2 c c4 = al → Ru yX10_feud.cls cX10_feud 7 (some .int) yX10_feud.name 10 (post) 0 0 52 [some (.ref m), some (.int (nI h1)), some (.int (nI h2)), some (.int (nI kw)), some (.int (nI c4)), z5, z6] [] n kd I J P
  | 0, c4, z5, z6, I, hc, hC, h0, hB, hro, hall => by
    rw [show c4 = 4 by omega]
    refine r_iload dX10_feud_52 rfl ?_
    refine r_iconst (v := nI 4) dX10_feud_54 (by decide) ?_
    refine r_icmp_ge (tgt := 136) dX10_feud_55 (by decide) (fun _ => ?_) (fun hz => absurd (show _ from (by rw [nI_leI (by omega) (by omega)]; omega)) hz)
    exact hEn (by rw [← hall]; rfl) z5 z6 I hB h0 hC (fun j hj => hro j (by omega))
  | c + 1, c4, z5, z6, I, hc, hC, h0, hB, hro, hall => by
    have hC0 := hC
    have oks := hz.2.1
    have hH8 : H ≤ 8 := oks.2.1
    have hM20 : 2 ≤ M ∧ M ≤ 20 := oks.1
    obtain ⟨hM, hT, hSt, hLf, hIm, hWk⟩ := hC
    have hrg : fRng H M (fdR H M un cs e h1 h2 c4).2.1 := (zR_rng hH8 hM20.2).2
    rcases gd2 (gdR (fdR H M un cs e h1 h2 c4)) with hg | hg
    · skip
      refine r_iload dX10_feud_52 rfl ?_
      refine r_iconst (v := nI 4) dX10_feud_54 (by decide) ?_
      refine r_icmp_ge (tgt := 136) dX10_feud_55 (by decide) (fun hz => absurd hz (show ¬ _ from (by rw [nI_leI (by omega) (by omega)]; omega))) (fun _ => ?_)
      refine r_iload dX10_feud_58 rfl ?_
      refine r_iconst (v := nI 1) dX10_feud_60 (by decide) ?_
      refine r_ishr dX10_feud_61 ?_
      refine r_iconst (v := nI 1) dX10_feud_62 (by decide) ?_
      refine r_iand dX10_feud_63 ?_
      rw [show (nI c4 >>> (nI 1 &&& 31)) &&& nI 1 = nI c4 >>> (nI 1 &&& 31) from by rcases (show c4 = 0 ∨ c4 = 1 ∨ c4 = 2 ∨ c4 = 3 by omega) with q | q | q | q <;> rw [q] <;> decide]
      refine r_iload_n dX10_feud_64 rfl ?_
      refine r_ishl dX10_feud_65 ?_
      refine r_iload dX10_feud_66 rfl ?_
      refine r_iconst (v := nI 1) dX10_feud_68 (by decide) ?_
      refine r_iand dX10_feud_69 ?_
      refine r_iload_n dX10_feud_70 rfl ?_
      refine r_ishl dX10_feud_71 ?_
      refine r_ior dX10_feud_72 ?_
      refine r_istore dX10_feud_73 (by decide) ?_
      refine r_aload_n dX10_feud_75 rfl ?_
      refine r_aload_n dX10_feud_76 rfl ?_
      refine r_virtE (c_X10_speaking m H hM hSt.1.1 hH8) lk_X10_429 mc_X10_speaking dX10_feud_77 hM.1 (by decide) rfl rfl (Nat.le_of_ble_eq_true rfl) ?_
      rw [sp_r hH8 hSt hLf]
      refine r_iload dX10_feud_80 rfl ?_
      refine r_iconst (v := (-1)) dX10_feud_82 (by decide) ?_
      refine r_ixor dX10_feud_83 ?_
      refine r_iand dX10_feud_84 ?_
      refine r_iconst (v := nI 1) dX10_feud_85 (by decide) ?_
      refine r_sipush (v := nI 1001) dX10_feud_86 (by decide) ?_
      refine r_virt (kc2 := 0) (ks2 := 0) (q_seeksR m (nI (spB H cs e) &&& (hidI h1 h2 c4 ^^^ (-1))) (nI 1) 1001 hC0 hz (by decide) (by decide) (fun k hk hb => sub_rb k hk hb (by omega))) lk_X10_432 mc_X10_seeks dX10_feud_89 hM.1 (by decide) rfl rfl (Nat.le_of_ble_eq_true rfl) (by decide) (by decide) (fun _ _ _ _ _ _ h => nomatch h.1) ?_
      rintro v1 n1 kd1 I1 J1 P1 ⟨h00, rfl, rfl, rfl, rfl, hfr, hfd⟩
      cases h00
      simp only [Option.toList, List.nil_append, List.cons_append]
      have hC1 := RR.rf hfr hC0
      have h01 : I1 m 0 = 0 := by rw [hfr.2 0 (by decide) (by decide)]; exact h0
      rw [show gdR (zR H M un cs e (nI (spB H cs e) &&& (hidI h1 h2 c4 ^^^ (-1))) (nI 1) 1001) = gdR (fdR H M un cs e h1 h2 c4) from rfl, hg]
      refine r_if_ne (tgt := 98) dX10_feud_92 (by decide) (fun hz => absurd (show _ from rfl) hz) (fun _ => ?_)
      refine r_bipush (v := (-2)) dX10_feud_95 (by decide) ?_
      refine r_iret rfl dX10_feud_97 ?_
      exact hnO (by rw [← hall]; show (gdR (fdR H M un cs e h1 h2 c4) && _) = false; rw [hg]; rfl) I1 (fun a ha => by rw [hfr.1 a (by omega) (by omega) (by omega) (by omega)]; exact hB a ha) h01 hC1
    · have hl := gdR_len hg
      refine r_iload dX10_feud_52 rfl ?_
      refine r_iconst (v := nI 4) dX10_feud_54 (by decide) ?_
      refine r_icmp_ge (tgt := 136) dX10_feud_55 (by decide) (fun hz => absurd hz (show ¬ _ from (by rw [nI_leI (by omega) (by omega)]; omega))) (fun _ => ?_)
      refine r_iload dX10_feud_58 rfl ?_
      refine r_iconst (v := nI 1) dX10_feud_60 (by decide) ?_
      refine r_ishr dX10_feud_61 ?_
      refine r_iconst (v := nI 1) dX10_feud_62 (by decide) ?_
      refine r_iand dX10_feud_63 ?_
      rw [show (nI c4 >>> (nI 1 &&& 31)) &&& nI 1 = nI c4 >>> (nI 1 &&& 31) from by rcases (show c4 = 0 ∨ c4 = 1 ∨ c4 = 2 ∨ c4 = 3 by omega) with q | q | q | q <;> rw [q] <;> decide]
      refine r_iload_n dX10_feud_64 rfl ?_
      refine r_ishl dX10_feud_65 ?_
      refine r_iload dX10_feud_66 rfl ?_
      refine r_iconst (v := nI 1) dX10_feud_68 (by decide) ?_
      refine r_iand dX10_feud_69 ?_
      refine r_iload_n dX10_feud_70 rfl ?_
      refine r_ishl dX10_feud_71 ?_
      refine r_ior dX10_feud_72 ?_
      refine r_istore dX10_feud_73 (by decide) ?_
      refine r_aload_n dX10_feud_75 rfl ?_
      refine r_aload_n dX10_feud_76 rfl ?_
      refine r_virtE (c_X10_speaking m H hM hSt.1.1 hH8) lk_X10_429 mc_X10_speaking dX10_feud_77 hM.1 (by decide) rfl rfl (Nat.le_of_ble_eq_true rfl) ?_
      rw [sp_r hH8 hSt hLf]
      refine r_iload dX10_feud_80 rfl ?_
      refine r_iconst (v := (-1)) dX10_feud_82 (by decide) ?_
      refine r_ixor dX10_feud_83 ?_
      refine r_iand dX10_feud_84 ?_
      refine r_iconst (v := nI 1) dX10_feud_85 (by decide) ?_
      refine r_sipush (v := nI 1001) dX10_feud_86 (by decide) ?_
      refine r_virt (kc2 := 0) (ks2 := 0) (q_seeksR m (nI (spB H cs e) &&& (hidI h1 h2 c4 ^^^ (-1))) (nI 1) 1001 hC0 hz (by decide) (by decide) (fun k hk hb => sub_rb k hk hb (by omega))) lk_X10_432 mc_X10_seeks dX10_feud_89 hM.1 (by decide) rfl rfl (Nat.le_of_ble_eq_true rfl) (by decide) (by decide) (fun _ _ _ _ _ _ h => nomatch h.1) ?_
      rintro v1 n1 kd1 I1 J1 P1 ⟨h00, rfl, rfl, rfl, rfl, hfr, hfd⟩
      cases h00
      simp only [Option.toList, List.nil_append, List.cons_append]
      have hC1 := RR.rf hfr hC0
      have h01 : I1 m 0 = 0 := by rw [hfr.2 0 (by decide) (by decide)]; exact h0
      rw [show gdR (zR H M un cs e (nI (spB H cs e) &&& (hidI h1 h2 c4 ^^^ (-1))) (nI 1) 1001) = gdR (fdR H M un cs e h1 h2 c4) from rfl, hg]
      refine r_if_ne (tgt := 98) dX10_feud_92 (by decide) (fun _ => ?_) (fun hz => absurd hz (show ¬ _ from (by decide)))
      refine r_aload_n dX10_feud_98 rfl ?_
      refine r_getR dX10_feud_99 fl_X10_118 rfl hM.1 (pM_64 hM) ?_
      refine r_iconst (v := nI 2) dX10_feud_102 (by decide) ?_
      refine r_iload dX10_feud_103 rfl ?_
      refine r_imul dX10_feud_105 ?_
      rw [pk_mul]
      refine r_aload_n dX10_feud_106 rfl ?_
      refine r_iload_n dX10_feud_107 rfl ?_
      refine r_iload_n dX10_feud_108 rfl ?_
      refine r_virtE (c_X10_gainOf m h1 h2 H M (fdR H M un cs e h1 h2 c4).2.1 hM hH8 hM20.2 (hfd hg).1 hl hrg ha hb (hfd hg).2) lk_X10_471 mc_X10_gainOf dX10_feud_109 hM.1 (by decide) rfl rfl (Nat.le_of_ble_eq_true rfl) ?_
      refine r_iast dX10_feud_112 (aM_64 hM) (nI_in8 8 (by omega) (by decide)) (nI_clamp (by omega)) ?_
      refine r_aload_n dX10_feud_113 rfl ?_
      refine r_getR dX10_feud_114 fl_X10_118 rfl hM.1 (pM_64 hM) ?_
      refine r_iconst (v := nI 2) dX10_feud_117 (by decide) ?_
      refine r_iload dX10_feud_118 rfl ?_
      refine r_imul dX10_feud_120 ?_
      rw [pk_mul]
      refine r_iconst (v := nI 1) dX10_feud_121 (by decide) ?_
      refine r_iadd dX10_feud_122 ?_
      rw [nI_add]
      refine r_aload_n dX10_feud_123 rfl ?_
      refine r_iload_n dX10_feud_124 rfl ?_
      refine r_iload_n dX10_feud_125 rfl ?_
      refine r_virtE (c_X10_gainOf m h2 h1 H M (fdR H M un cs e h1 h2 c4).2.1 hM hH8 hM20.2 (by rw [am_up_n _ _ (show m ≠ m + 32 by omega)]; exact (hfd hg).1) hl hrg hb ha (fun i h hi hh => by rw [am_up_n _ _ (show m + 27 ≠ m + 32 by omega)]; exact (hfd hg).2 i h hi hh)) lk_X10_471 mc_X10_gainOf dX10_feud_126 hM.1 (by decide) rfl rfl (Nat.le_of_ble_eq_true rfl) ?_
      refine r_iast dX10_feud_129 (aM_64 hM) (nI_in8 8 (by omega) (by decide)) (nI_clamp (by omega)) ?_
      rw [am_up_s, am_up_up]
      refine r_iinc (v := nI (c4 + 1)) dX10_feud_130 rfl (nI_inc c4) ?_
      refine r_goto (tgt := 52) dX10_feud_133 (by decide) ?_
      refine w_feudR1 m h1 h2 kw ha hb hz hEn hnO c (c4 + 1) _ _ (va_up I1 (m + 32) _) (by omega) (RR.qu (I := I1) (fun a a1 a2 a3 a4 => am_up_n _ _ (by omega)) (fun j hj => by rw [am_up_n _ _ (show m ≠ m + 32 by omega)]) hC1) (by rw [am_up_n _ _ (show m ≠ m + 32 by omega)]; exact h01) (fun a ha => by rw [am_up_n _ _ (by omega), hfr.1 a (by omega) (by omega) (by omega) (by omega)]; exact hB a ha) (fun j hj => ?_) (by rw [← hall, show fdA H M un cs e h1 h2 (c + 1) c4 = (gdR (fdR H M un cs e h1 h2 c4) && fdA H M un cs e h1 h2 c (c4 + 1)) from rfl, hg, Bool.true_and])
      rw [am_up_s]
      by_cases jk : j = c4
      · rw [jk, am_up_n _ _ (show 2 * c4 ≠ 2 * c4 + 1 by omega), am_up_s, am_up_s]
        exact ⟨rfl, rfl⟩
      · have hj2 := hro j (by omega)
        rw [am_up_n _ _ (by omega), am_up_n _ _ (by omega), am_up_n _ _ (by omega), am_up_n _ _ (by omega), hfr.1 (m + 32) (by omega) (by omega) (by omega) (by omega)]
        exact hj2

set_option maxHeartbeats 4000000 in
set_option maxRecDepth 100000 in
theorem q_feud (m : Nat) (h1 h2 k : Nat) {t : Nat} {T : Nat → Nat} {fp : Int32} {rr : Nat → Int32} {H M : Nat} {un : Bool} {cs : Nat → List Nat} {tx : Nat → List Int32} {e : Lf} {im : Option Lf} {wk : Option (List Nat)} {n : Nat} {kd : mK} {I : mI} {J : mJ} {P : mP} (hC : RR m kd I P t T fp rr H M un cs tx e im wk) (hz : okZ t T H M cs e) (ha : h1 < H) (hb : h2 < H) (hk2 : k < 2) (hne : ¬ h1 = h2) : Ct yX10_feud cX10_feud 7 (some .int) 10 0 0 [.ref m, .int (nI h1), .int (nI h2), .int (nI k)] n kd I J P (pQ m n kd I J P (some (.int (fdV H M un cs e h1 h2 k))) 0 (RX m t T fp rr H M un cs tx e im wk)) := by
  refine ct_of 3 (by decide +kernel) (Nat.le_of_ble_eq_true rfl) rfl ?_
  refine r_aload_n dX10_feud_0 rfl ?_
  refine r_iconst (v := nI 0) dX10_feud_1 (by decide) ?_
  refine r_putI dX10_feud_2 fl_X10_193 rfl rfl (kM_0 hC.1) ?_
  refine q_th hC (fun I hC h0 => ?_)
  have hC0 := hC
  have hz0 := hz
  obtain ⟨hM, hT, hSt, hLf, hIm, hWk⟩ := hC
  obtain ⟨okt, oks, okl⟩ := hz
  have hH8 : H ≤ 8 := oks.2.1
  have hM20 : 2 ≤ M ∧ M ≤ 20 := oks.1
  have hH : I m 1 = nI H := hSt.1.1
  have hMo : I m 2 = nI M := hSt.1.2.1
  refine r_aload_n dX10_feud_5 rfl ?_
  refine r_iload_n dX10_feud_6 rfl ?_
  refine r_virtE (c_X10_isHouse m (nI h1) hM h0) lk_X10_373 mc_X10_isHouse dX10_feud_7 (kM_0 hM) (by decide) rfl rfl (Nat.le_of_ble_eq_true rfl) ?_
  rw [show (!decide (nI h1 < 0) && decide (nI h1 < I m 1)) = true from by rw [hH]; exact (isH_of ha (by omega)), thM_ok]
  refine r_if_eq (tgt := 47) dX10_feud_10 (by decide) (fun hz => absurd hz (show ¬ _ from (by decide))) (fun _ => ?_)
  refine r_aload_n dX10_feud_13 rfl ?_
  refine r_iload_n dX10_feud_14 rfl ?_
  refine r_virtE (c_X10_isHouse m (nI h2) hM h0) lk_X10_373 mc_X10_isHouse dX10_feud_15 (kM_0 hM) (by decide) rfl rfl (Nat.le_of_ble_eq_true rfl) ?_
  rw [show (!decide (nI h2 < 0) && decide (nI h2 < I m 1)) = true from by rw [hH]; exact (isH_of hb (by omega)), thM_ok]
  refine r_if_eq (tgt := 47) dX10_feud_18 (by decide) (fun hz => absurd hz (show ¬ _ from (by decide))) (fun _ => ?_)
  refine r_aload_n dX10_feud_21 rfl ?_
  refine r_iload_n dX10_feud_22 rfl ?_
  refine r_virtE (c_X10_isTwo m (nI k) hM h0) lk_X10_379 mc_X10_isTwo dX10_feud_23 (kM_0 hM) (by decide) rfl rfl (Nat.le_of_ble_eq_true rfl) ?_
  rw [show (decide (nI k = 0) || decide (nI k = nI 1)) = true from two_of hk2, thM_ok]
  refine r_if_eq (tgt := 47) dX10_feud_26 (by decide) (fun hz => absurd hz (show ¬ _ from (by decide))) (fun _ => ?_)
  refine r_aload_n dX10_feud_29 rfl ?_
  refine r_iload_n dX10_feud_30 rfl ?_
  refine r_iload_n dX10_feud_31 rfl ?_
  refine r_icmp_eq (tgt := 39) dX10_feud_32 (by decide) (fun hz => absurd hz (show ¬ _ from (by rw [nI_eq (by omega) (by omega)]; exact hne))) (fun _ => ?_)
  refine r_iconst (v := nI 1) dX10_feud_35 (by decide) ?_
  refine r_goto (tgt := 40) dX10_feud_36 (by decide) ?_
  refine r_iconst (v := nI 2) dX10_feud_40 (by decide) ?_
  refine r_virtE (c_X10_right m true (nI 2) hM h0 (by decide)) lk_X10_343 mc_X10_right dX10_feud_41 (kM_0 hM) (by decide) rfl rfl (Nat.le_of_ble_eq_true rfl) ?_
  rw [thM_ok]
  refine r_if_ne (tgt := 49) dX10_feud_44 (by decide) (fun _ => ?_) (fun hz => absurd hz (show ¬ _ from (by decide)))
  refine r_iconst (v := nI 0) dX10_feud_49 (by decide) ?_
  refine r_istore dX10_feud_50 (by decide) ?_
  refine w_feudR1 m h1 h2 k ha hb hz0 (al := fdA H M un cs e h1 h2 4 0) (I0 := I) (fun hg z5 z6 I' hB' h0' hC' hro' => ?_) (fun hg I' hB' h0' hC' => ?_) 4 0 _ _ I rfl hC0 h0 (fun _ _ => rfl) (fun j hj => absurd hj (by omega)) rfl
  · by_cases c : k = 0
    · rw [show fdV H M un cs e h1 h2 k = nI (rsC (g1N H M un cs e h1 h2) (g2N H M un cs e h1 h2) 4) from by unfold fdV; rw [if_pos hg, if_pos c]]
      refine r_iconst (v := nI 0) dX10_feud_136 (by decide) ?_
      refine r_istore dX10_feud_137 (by decide) ?_
      refine r_iconst (v := (-1)) dX10_feud_139 (by decide) ?_
      refine r_istore dX10_feud_140 (by decide) ?_
      refine r_iconst (v := nI 0) dX10_feud_142 (by decide) ?_
      refine r_istore dX10_feud_143 (by decide) ?_
      refine w_feudR2 m h1 h2 k hC'.1 hC'.2.2.1.1.1 hro' ?_ 4 0 rfl
      refine r_iload_n dX10_feud_223 rfl ?_
      refine r_if_ne (tgt := 232) dX10_feud_224 (by decide) (fun hz => absurd (show _ from (by rw [c]; rfl)) hz) (fun _ => ?_)
      refine r_iload dX10_feud_227 rfl ?_
      refine r_goto (tgt := 234) dX10_feud_229 (by decide) ?_
      refine r_iret rfl dX10_feud_234 ?_
      exact ⟨rfl, rfl, rfl, rfl, fun a ha => ⟨hB' a ha, rfl⟩, h0', hC'⟩
    · rw [show fdV H M un cs e h1 h2 k = rsF (g1N H M un cs e h1 h2) (g2N H M un cs e h1 h2) 4 from by unfold fdV; rw [if_pos hg, if_neg c]]
      refine r_iconst (v := nI 0) dX10_feud_136 (by decide) ?_
      refine r_istore dX10_feud_137 (by decide) ?_
      refine r_iconst (v := (-1)) dX10_feud_139 (by decide) ?_
      refine r_istore dX10_feud_140 (by decide) ?_
      refine r_iconst (v := nI 0) dX10_feud_142 (by decide) ?_
      refine r_istore dX10_feud_143 (by decide) ?_
      refine w_feudR2 m h1 h2 k hC'.1 hC'.2.2.1.1.1 hro' ?_ 4 0 rfl
      refine r_iload_n dX10_feud_223 rfl ?_
      refine r_if_ne (tgt := 232) dX10_feud_224 (by decide) (fun _ => ?_) (fun hz => absurd hz (show ¬ _ from (nI_ne0 (by omega) (by omega))))
      refine r_iload dX10_feud_232 rfl ?_
      refine r_iret rfl dX10_feud_234 ?_
      exact ⟨rfl, rfl, rfl, rfl, fun a ha => ⟨hB' a ha, rfl⟩, h0', hC'⟩
  · rw [show fdV H M un cs e h1 h2 k = -2 from if_neg (by rw [hg]; decide)]
    exact ⟨rfl, rfl, rfl, rfl, fun a ha => ⟨hB' a ha, rfl⟩, h0', hC'⟩


/-! CHANGED, the reference, on any state -/

set_option maxHeartbeats 4000000 in
set_option maxRecDepth 100000 in
theorem q_changed_no1 (m : Nat) (h : Nat) (y z u : Int32) {t : Nat} {T : Nat → Nat} {fp : Int32} {rr : Nat → Int32} {H M : Nat} {un : Bool} {cs : Nat → List Nat} {tx : Nat → List Int32} {e : Lf} {im : Option Lf} {wk : Option (List Nat)} {n : Nat} {kd : mK} {I : mI} {J : mJ} {P : mP} (hC : RR m kd I P t T fp rr H M un cs tx e im wk) (hz : okZ t T H M cs e) (hh : h < H) (hy : (!decide (y < 0) && decide (y < nI 2)) = false) : Ct yX10_changed cX10_changed 11 (some .int) 10 0 0 [.ref m, .int (nI h), .int y, .int z, .int u] n kd I J P (pQ m n kd I J P (some (.int (nI 0))) 1 (RX m t T fp rr H M un cs tx e im wk)) := by
  refine ct_of 6 (by decide +kernel) (Nat.le_of_ble_eq_true rfl) rfl ?_
  refine r_aload_n dX10_changed_0 rfl ?_
  refine r_iconst (v := nI 0) dX10_changed_1 (by decide) ?_
  refine r_putI dX10_changed_2 fl_X10_193 rfl rfl (kM_0 hC.1) ?_
  refine q_th hC (fun I hC h0 => ?_)
  have hC0 := hC
  have hz0 := hz
  obtain ⟨hM, hT, hSt, hLf, hIm, hWk⟩ := hC
  obtain ⟨okt, oks, okl⟩ := hz
  have hH8 : H ≤ 8 := oks.2.1
  have hM20 : 2 ≤ M ∧ M ≤ 20 := oks.1
  have hH : I m 1 = nI H := hSt.1.1
  have hMo : I m 2 = nI M := hSt.1.2.1
  refine r_aload_n dX10_changed_5 rfl ?_
  refine r_iload_n dX10_changed_6 rfl ?_
  refine r_virtE (c_X10_isHouse m (nI h) hM h0) lk_X10_373 mc_X10_isHouse dX10_changed_7 (kM_0 hM) (by decide) rfl rfl (Nat.le_of_ble_eq_true rfl) ?_
  rw [show (!decide (nI h < 0) && decide (nI h < I m 1)) = true from by rw [hH]; exact (isH_of hh (by omega)), thM_ok]
  refine r_if_eq (tgt := 45) dX10_changed_10 (by decide) (fun hz => absurd hz (show ¬ _ from (by decide))) (fun _ => ?_)
  refine r_aload_n dX10_changed_13 rfl ?_
  refine r_iload_n dX10_changed_14 rfl ?_
  refine r_virtE (c_X10_isTwo m (y) hM h0) lk_X10_379 mc_X10_isTwo dX10_changed_15 (kM_0 hM) (by decide) rfl rfl (Nat.le_of_ble_eq_true rfl) ?_
  rw [show (decide (y = 0) || decide (y = nI 1)) = false from two_no hy]
  refine r_if_eq (tgt := 45) dX10_changed_18 (by decide) (fun _ => ?_) (fun hz => absurd (show _ from rfl) hz)
  refine r_iconst (v := nI 0) dX10_changed_45 (by decide) ?_
  refine r_iret rfl dX10_changed_46 ?_
  exact pQ.th hC0 am_is.mk

set_option maxHeartbeats 4000000 in
set_option maxRecDepth 100000 in
theorem q_changed_no2 (m : Nat) (h k : Nat) (z u : Int32) {t : Nat} {T : Nat → Nat} {fp : Int32} {rr : Nat → Int32} {H M : Nat} {un : Bool} {cs : Nat → List Nat} {tx : Nat → List Int32} {e : Lf} {im : Option Lf} {wk : Option (List Nat)} {n : Nat} {kd : mK} {I : mI} {J : mJ} {P : mP} (hC : RR m kd I P t T fp rr H M un cs tx e im wk) (hz : okZ t T H M cs e) (hh : h < H) (hk2 : k < 2) (hy : (!decide (u < 0) && decide (u < nI 2)) = false) : Ct yX10_changed cX10_changed 11 (some .int) 10 0 0 [.ref m, .int (nI h), .int (nI k), .int z, .int u] n kd I J P (pQ m n kd I J P (some (.int (nI 0))) 1 (RX m t T fp rr H M un cs tx e im wk)) := by
  refine ct_of 6 (by decide +kernel) (Nat.le_of_ble_eq_true rfl) rfl ?_
  refine r_aload_n dX10_changed_0 rfl ?_
  refine r_iconst (v := nI 0) dX10_changed_1 (by decide) ?_
  refine r_putI dX10_changed_2 fl_X10_193 rfl rfl (kM_0 hC.1) ?_
  refine q_th hC (fun I hC h0 => ?_)
  have hC0 := hC
  have hz0 := hz
  obtain ⟨hM, hT, hSt, hLf, hIm, hWk⟩ := hC
  obtain ⟨okt, oks, okl⟩ := hz
  have hH8 : H ≤ 8 := oks.2.1
  have hM20 : 2 ≤ M ∧ M ≤ 20 := oks.1
  have hH : I m 1 = nI H := hSt.1.1
  have hMo : I m 2 = nI M := hSt.1.2.1
  refine r_aload_n dX10_changed_5 rfl ?_
  refine r_iload_n dX10_changed_6 rfl ?_
  refine r_virtE (c_X10_isHouse m (nI h) hM h0) lk_X10_373 mc_X10_isHouse dX10_changed_7 (kM_0 hM) (by decide) rfl rfl (Nat.le_of_ble_eq_true rfl) ?_
  rw [show (!decide (nI h < 0) && decide (nI h < I m 1)) = true from by rw [hH]; exact (isH_of hh (by omega)), thM_ok]
  refine r_if_eq (tgt := 45) dX10_changed_10 (by decide) (fun hz => absurd hz (show ¬ _ from (by decide))) (fun _ => ?_)
  refine r_aload_n dX10_changed_13 rfl ?_
  refine r_iload_n dX10_changed_14 rfl ?_
  refine r_virtE (c_X10_isTwo m (nI k) hM h0) lk_X10_379 mc_X10_isTwo dX10_changed_15 (kM_0 hM) (by decide) rfl rfl (Nat.le_of_ble_eq_true rfl) ?_
  rw [show (decide (nI k = 0) || decide (nI k = nI 1)) = true from two_of hk2, thM_ok]
  refine r_if_eq (tgt := 45) dX10_changed_18 (by decide) (fun hz => absurd hz (show ¬ _ from (by decide))) (fun _ => ?_)
  refine r_aload_n dX10_changed_21 rfl ?_
  refine r_iload dX10_changed_22 rfl ?_
  refine r_virtE (c_X10_isTwo m (u) hM h0) lk_X10_379 mc_X10_isTwo dX10_changed_24 (kM_0 hM) (by decide) rfl rfl (Nat.le_of_ble_eq_true rfl) ?_
  rw [show (decide (u = 0) || decide (u = nI 1)) = false from two_no hy]
  refine r_if_eq (tgt := 45) dX10_changed_27 (by decide) (fun _ => ?_) (fun hz => absurd (show _ from rfl) hz)
  refine r_iconst (v := nI 0) dX10_changed_45 (by decide) ?_
  refine r_iret rfl dX10_changed_46 ?_
  exact pQ.th hC0 am_is.mk

set_option maxHeartbeats 4000000 in
set_option maxRecDepth 100000 in
theorem q_changed_no3 (m : Nat) (h k w : Nat) (y : Int32) {t : Nat} {T : Nat → Nat} {fp : Int32} {rr : Nat → Int32} {H M : Nat} {un : Bool} {cs : Nat → List Nat} {tx : Nat → List Int32} {e : Lf} {im : Option Lf} {wk : Option (List Nat)} {n : Nat} {kd : mK} {I : mI} {J : mJ} {P : mP} (hC : RR m kd I P t T fp rr H M un cs tx e im wk) (hz : okZ t T H M cs e) (hh : h < H) (hk2 : k < 2) (hw2 : w < 2) (hy : y < 0 ∨ nI 99 < y) : Ct yX10_changed cX10_changed 11 (some .int) 10 0 0 [.ref m, .int (nI h), .int (nI k), .int y, .int (nI w)] n kd I J P (pQ m n kd I J P (some (.int (nI 0))) 2 (RX m t T fp rr H M un cs tx e im wk)) := by
  refine ct_of 6 (by decide +kernel) (Nat.le_of_ble_eq_true rfl) rfl ?_
  refine r_aload_n dX10_changed_0 rfl ?_
  refine r_iconst (v := nI 0) dX10_changed_1 (by decide) ?_
  refine r_putI dX10_changed_2 fl_X10_193 rfl rfl (kM_0 hC.1) ?_
  refine q_th hC (fun I hC h0 => ?_)
  have hC0 := hC
  have hz0 := hz
  obtain ⟨hM, hT, hSt, hLf, hIm, hWk⟩ := hC
  obtain ⟨okt, oks, okl⟩ := hz
  have hH8 : H ≤ 8 := oks.2.1
  have hM20 : 2 ≤ M ∧ M ≤ 20 := oks.1
  have hH : I m 1 = nI H := hSt.1.1
  have hMo : I m 2 = nI M := hSt.1.2.1
  refine r_aload_n dX10_changed_5 rfl ?_
  refine r_iload_n dX10_changed_6 rfl ?_
  refine r_virtE (c_X10_isHouse m (nI h) hM h0) lk_X10_373 mc_X10_isHouse dX10_changed_7 (kM_0 hM) (by decide) rfl rfl (Nat.le_of_ble_eq_true rfl) ?_
  rw [show (!decide (nI h < 0) && decide (nI h < I m 1)) = true from by rw [hH]; exact (isH_of hh (by omega)), thM_ok]
  refine r_if_eq (tgt := 45) dX10_changed_10 (by decide) (fun hz => absurd hz (show ¬ _ from (by decide))) (fun _ => ?_)
  refine r_aload_n dX10_changed_13 rfl ?_
  refine r_iload_n dX10_changed_14 rfl ?_
  refine r_virtE (c_X10_isTwo m (nI k) hM h0) lk_X10_379 mc_X10_isTwo dX10_changed_15 (kM_0 hM) (by decide) rfl rfl (Nat.le_of_ble_eq_true rfl) ?_
  rw [show (decide (nI k = 0) || decide (nI k = nI 1)) = true from two_of hk2, thM_ok]
  refine r_if_eq (tgt := 45) dX10_changed_18 (by decide) (fun hz => absurd hz (show ¬ _ from (by decide))) (fun _ => ?_)
  refine r_aload_n dX10_changed_21 rfl ?_
  refine r_iload dX10_changed_22 rfl ?_
  refine r_virtE (c_X10_isTwo m (nI w) hM h0) lk_X10_379 mc_X10_isTwo dX10_changed_24 (kM_0 hM) (by decide) rfl rfl (Nat.le_of_ble_eq_true rfl) ?_
  rw [show (decide (nI w = 0) || decide (nI w = nI 1)) = true from two_of hw2, thM_ok]
  refine r_if_eq (tgt := 45) dX10_changed_27 (by decide) (fun hz => absurd hz (show ¬ _ from (by decide))) (fun _ => ?_)
  refine r_aload_n dX10_changed_30 rfl ?_
  refine r_iload_n dX10_changed_31 rfl ?_
  refine r_iconst (v := nI 0) dX10_changed_32 (by decide) ?_
  refine r_bipush (v := nI 99) dX10_changed_33 (by decide) ?_
  refine r_statE (c_X10_within (y) (nI 0) (nI 99)) lk_X10_369 mc_X10_within dX10_changed_35 (by decide) rfl rfl (Nat.le_of_ble_eq_true rfl) ?_
  rw [show (!decide (y < nI 0) && !decide (nI 99 < y)) = false from wi_no hy]
  refine r_iconst (v := nI 2) dX10_changed_38 (by decide) ?_
  refine r_virtE (c_X10_right m false (nI 2) hM h0 (by decide)) lk_X10_343 mc_X10_right dX10_changed_39 (kM_0 hM) (by decide) rfl rfl (Nat.le_of_ble_eq_true rfl) ?_
  refine r_if_ne (tgt := 47) dX10_changed_42 (by decide) (fun hz => absurd (show _ from rfl) hz) (fun _ => ?_)
  refine r_iconst (v := nI 0) dX10_changed_45 (by decide) ?_
  refine r_iret rfl dX10_changed_46 ?_
  exact pQ.th hC0 am_is.mk

set_option maxHeartbeats 4000000 in
set_option maxRecDepth 100000 in
theorem w_ch1 (m h k v w F1 H M : Nat) (fs : List (Nat → Nat)) (z7 z8 z9 z10 : Option Value) {post : am_Post} {n : Nat} {kd : mK} {I : mI} {J : mJ} {P : mP} (hM : kM kd P m) (hH : I m 1 = nI H) (hH8 : H ≤ 8) (hM20 : M ≤ 20) (hF : I m 52 = nI F1) (hF1 : F1 = fs.length) (hl : F1 ≤ 1000) (hr : fRng H M fs) (hq : ∀ i h, i < fs.length → h < H → I (m + 27) (8 * i + h) = nI (nmF fs i h)) (hE : (∀ (R Q : Nat → Int32), (∀ i, i < H → R i = nI (mayN fs i)) → (∀ i, i < H → Q i = I (m + 27) (8 * 0 + i)) → Ru yX10_changed.cls cX10_changed 11 (some .int) yX10_changed.name 10 (post) 0 0 108 [some (.ref m), some (.int (nI h)), some (.int (nI k)), some (.int (nI v)), some (.int (nI w)), some (.int (nI F1)), some (.int (nI H)), z7, z8, z9, z10] [] n kd (va_up (va_up I (m + 34) R) (m + 35) Q) J P)) : ∀ (c j : Nat) (R Q : Nat → Int32), j + c = H → (∀ i, i < j → R i = nI (mayN fs i)) → (∀ i, i < j → Q i = I (m + 27) (8 * 0 + i)) → Ru yX10_changed.cls cX10_changed 11 (some .int) yX10_changed.name 10 (post) 0 0 66 [some (.ref m), some (.int (nI h)), some (.int (nI k)), some (.int (nI v)), some (.int (nI w)), some (.int (nI F1)), some (.int (nI j)), z7, z8, z9, z10] [] n kd (va_up (va_up I (m + 34) R) (m + 35) Q) J P
  | 0, j, R, Q, hc, h1, h2 => by
    rw [show j = H by omega] at h1 h2 ⊢
    refine r_iload dX10_changed_66 rfl ?_
    refine r_aload_n dX10_changed_68 rfl ?_
    refine r_getI dX10_changed_69 fl_X10_350 rfl hM.1 ?_
    rw [am_up_n _ _ (show m ≠ m + 35 by omega), am_up_n _ _ (show m ≠ m + 34 by omega), hH]
    refine r_icmp_ge (tgt := 108) dX10_changed_72 (by decide) (fun _ => ?_) (fun hz => absurd (show _ from (by rw [nI_leI (by omega) (by omega)]; omega)) hz)
    exact hE R Q h1 h2
  | c + 1, j, R, Q, hc, h1, h2 => by
    refine r_iload dX10_changed_66 rfl ?_
    refine r_aload_n dX10_changed_68 rfl ?_
    refine r_getI dX10_changed_69 fl_X10_350 rfl hM.1 ?_
    rw [am_up_n _ _ (show m ≠ m + 35 by omega), am_up_n _ _ (show m ≠ m + 34 by omega), hH]
    refine r_icmp_ge (tgt := 108) dX10_changed_72 (by decide) (fun hz => absurd hz (show ¬ _ from (by rw [nI_leI (by omega) (by omega)]; omega))) (fun _ => ?_)
    refine r_aload_n dX10_changed_75 rfl ?_
    refine r_getR dX10_changed_76 fl_X10_124 rfl hM.1 (pM_68 hM) ?_
    refine r_iload dX10_changed_79 rfl ?_
    refine r_aload_n dX10_changed_81 rfl ?_
    refine r_iload dX10_changed_82 rfl ?_
    refine r_virtE (c_X10_mayOf m j F1 hM (by omega) (by rw [am_up_n _ _ (show m ≠ m + 35 by omega), am_up_n _ _ (show m ≠ m + 34 by omega)]; exact hF) hl) lk_X10_442 mc_X10_mayOf dX10_changed_84 hM.1 (by decide) rfl rfl (Nat.le_of_ble_eq_true rfl) ?_
    rw [am_up_n _ _ (show m + 27 ≠ m + 35 by omega), am_up_n _ _ (show m + 27 ≠ m + 34 by omega), show myR (I (m + 27)) j F1 = nI (mayN fs j) from by rw [hF1]; exact my_of hM20 (show j < H by omega) fs _ hr (fun i hi => hq i _ hi (by omega))]
    refine r_iast dX10_changed_87 (aM_68 hM) (nI_in8 8 (by omega) (by decide)) (nI_clamp (by omega)) ?_
    rw [am_up_n _ _ (show m + 34 ≠ m + 35 by omega), am_up_s, am_up_cm (va_up I (m + 34) R) Q _ (show m + 35 ≠ m + 34 by omega), am_up_up]
    refine r_aload_n dX10_changed_88 rfl ?_
    refine r_getR dX10_changed_89 fl_X10_127 rfl hM.1 (pM_69 hM) ?_
    refine r_iload dX10_changed_92 rfl ?_
    refine r_aload_n dX10_changed_94 rfl ?_
    refine r_iconst (v := nI 0) dX10_changed_95 (by decide) ?_
    refine r_iload dX10_changed_96 rfl ?_
    refine r_virtE (c_X10_at m 0 j hM (by decide) (by omega)) lk_X10_439 mc_X10_at dX10_changed_98 hM.1 (by decide) rfl rfl (Nat.le_of_ble_eq_true rfl) ?_
    rw [am_up_n _ _ (show m + 27 ≠ m + 35 by omega), am_up_n _ _ (show m + 27 ≠ m + 34 by omega)]
    refine r_iast dX10_changed_101 (aM_69 hM) (nI_in8 8 (by omega) (by decide)) (nI_clamp (by omega)) ?_
    rw [am_up_s, am_up_up]
    refine r_iinc (v := nI (j + 1)) dX10_changed_102 rfl (nI_inc j) ?_
    refine r_goto (tgt := 66) dX10_changed_105 (by decide) ?_
    refine w_ch1 m h k v w F1 H M fs z7 z8 z9 z10 hM hH hH8 hM20 hF hF1 hl hr hq hE c (j + 1) _ _ (by omega) (fun i hi => ?_) (fun i hi => ?_)
    · by_cases q : i = j
      · rw [q, am_up_s]
      · rw [am_up_n _ _ q]; exact h1 i (by omega)
    · by_cases q : i = j
      · rw [q, am_up_s]
      · rw [am_up_n _ _ q]; exact h2 i (by omega)

def faR (A B : Nat → Int32) : Nat → Int32
  | 0 => nI 0
  | k + 1 => faR A B k + (if B k < A k then A k - B k else B k - A k)
theorem faR_nI {A B : Nat → Int32} {a b : Nat → Nat} : ∀ k, (∀ i, i < k → A i = nI (a i) ∧ B i = nI (b i) ∧ a i < 2 ^ 30 ∧ b i < 2 ^ 30) → faR A B k = nI (chF a b k)
  | 0, _ => rfl
  | k + 1, h => by
    obtain ⟨h1, h2, h3, h4⟩ := h k (Nat.lt_succ_self k)
    show faR A B k + (if B k < A k then A k - B k else B k - A k) = nI (chF a b k + dst (a k) (b k))
    rw [faR_nI k (fun i hi => h i (by omega)), h1, h2, dst_sy]
    unfold dst
    by_cases q : b k < a k
    · rw [if_pos ((nI_ltI (by omega) (by omega)).mpr q), if_pos q, pk_sub (by omega), nI_add]
    · rw [if_neg (fun z => q ((nI_ltI (by omega) (by omega)).mp z)), if_neg q, pk_sub (by omega), nI_add]
set_option maxHeartbeats 4000000 in
set_option maxRecDepth 100000 in
theorem w_ch2 (m h k v w F1 H M : Nat) (fs : List (Nat → Nat)) (A B : Nat → Nat) (Q N : Nat → Int32) (x6 x7 : Int32) {post : am_Post} {n : Nat} {kd : mK} {I : mI} {J : mJ} {P : mP} (hM : kM kd P m) (hH : I m 1 = nI H) (hH8 : H ≤ 8) (hM20 : M ≤ 20) (hF : I m 52 = nI fs.length) (hl : fs.length ≤ 1000) (hr : fRng H M fs) (hq : ∀ i h, i < fs.length → h < H → I (m + 27) (8 * i + h) = nI (nmF fs i h)) (hR : ∀ i, i < H → I (m + 34) i = nI (A i) ∧ A i < 2 ^ 31) (hQ : ∀ i, i < H → I (m + 35) i = Q i) (hN : ∀ i, i < H → I (m + 27) (8 * 0 + i) = N i) (hB : B = mayN fs) (hE : Ru yX10_changed.cls cX10_changed 11 (some .int) yX10_changed.name 10 (post) 0 0 245 [some (.ref m), some (.int (nI h)), some (.int (nI k)), some (.int (nI v)), some (.int (nI w)), some (.int (nI F1)), some (.int x6), some (.int x7), some (.int (nI (chC A B H))), some (.int (faR Q N H)), some (.int (nI H))] [] n kd I J P) : ∀ (c j : Nat), j + c = H → Ru yX10_changed.cls cX10_changed 11 (some .int) yX10_changed.name 10 (post) 0 0 149 [some (.ref m), some (.int (nI h)), some (.int (nI k)), some (.int (nI v)), some (.int (nI w)), some (.int (nI F1)), some (.int x6), some (.int x7), some (.int (nI (chC A B j))), some (.int (faR Q N j)), some (.int (nI j))] [] n kd I J P
  | 0, j, hc => by
    rw [show j = H by omega]
    refine r_iload dX10_changed_149 rfl ?_
    refine r_aload_n dX10_changed_151 rfl ?_
    refine r_getI dX10_changed_152 fl_X10_350 rfl hM.1 ?_
    rw [hH]
    refine r_icmp_ge (tgt := 245) dX10_changed_155 (by decide) (fun _ => ?_) (fun hz => absurd (show _ from (by rw [nI_leI (by omega) (by omega)]; omega)) hz)
    exact hE
  | c + 1, j, hc => by
    by_cases c1 : A j = B j
    · by_cases c2 : N j < Q j
      · skip
        refine r_iload dX10_changed_149 rfl ?_
        refine r_aload_n dX10_changed_151 rfl ?_
        refine r_getI dX10_changed_152 fl_X10_350 rfl hM.1 ?_
        rw [hH]
        refine r_icmp_ge (tgt := 245) dX10_changed_155 (by decide) (fun hz => absurd hz (show ¬ _ from (by rw [nI_leI (by omega) (by omega)]; omega))) (fun _ => ?_)
        refine r_iload dX10_changed_158 rfl ?_
        refine r_aload_n dX10_changed_160 rfl ?_
        refine r_iload dX10_changed_161 rfl ?_
        refine r_virtE (c_X10_mayOf m j fs.length hM (by omega) hF hl) lk_X10_442 mc_X10_mayOf dX10_changed_163 hM.1 (by decide) rfl rfl (Nat.le_of_ble_eq_true rfl) ?_
        rw [my_of hM20 (show j < H by omega) fs _ hr (fun i hi => hq i _ hi (by omega))]
        refine r_aload_n dX10_changed_166 rfl ?_
        refine r_getR dX10_changed_167 fl_X10_124 rfl hM.1 (pM_68 hM) ?_
        refine r_iload dX10_changed_170 rfl ?_
        refine r_iald dX10_changed_172 (aM_68 hM) (nI_in8 8 (by omega) (by decide)) (nI_clamp (by omega)) ?_
        rw [(hR j (by omega)).1]
        refine r_icmp_eq (tgt := 180) dX10_changed_173 (by decide) (fun _ => ?_) (fun hz => absurd (show _ from (by rw [c1, hB])) hz)
        refine r_iconst (v := nI 0) dX10_changed_180 (by decide) ?_
        refine r_iadd dX10_changed_181 ?_
        rw [nI_add]
        refine r_istore dX10_changed_182 (by decide) ?_
        refine r_iload dX10_changed_184 rfl ?_
        refine r_aload_n dX10_changed_186 rfl ?_
        refine r_iconst (v := nI 0) dX10_changed_187 (by decide) ?_
        refine r_iload dX10_changed_188 rfl ?_
        refine r_virtE (c_X10_at m 0 j hM (by decide) (by omega)) lk_X10_439 mc_X10_at dX10_changed_190 hM.1 (by decide) rfl rfl (Nat.le_of_ble_eq_true rfl) ?_
        rw [hN j (by omega)]
        refine r_aload_n dX10_changed_193 rfl ?_
        refine r_getR dX10_changed_194 fl_X10_127 rfl hM.1 (pM_69 hM) ?_
        refine r_iload dX10_changed_197 rfl ?_
        refine r_iald dX10_changed_199 (aM_69 hM) (nI_in8 8 (by omega) (by decide)) (nI_clamp (by omega)) ?_
        rw [hQ j (by omega)]
        refine r_icmp_ge (tgt := 221) dX10_changed_200 (by decide) (fun hz => absurd hz (show ¬ _ from (Int32.not_le.mpr c2))) (fun _ => ?_)
        refine r_aload_n dX10_changed_203 rfl ?_
        refine r_getR dX10_changed_204 fl_X10_127 rfl hM.1 (pM_69 hM) ?_
        refine r_iload dX10_changed_207 rfl ?_
        refine r_iald dX10_changed_209 (aM_69 hM) (nI_in8 8 (by omega) (by decide)) (nI_clamp (by omega)) ?_
        rw [hQ j (by omega)]
        refine r_aload_n dX10_changed_210 rfl ?_
        refine r_iconst (v := nI 0) dX10_changed_211 (by decide) ?_
        refine r_iload dX10_changed_212 rfl ?_
        refine r_virtE (c_X10_at m 0 j hM (by decide) (by omega)) lk_X10_439 mc_X10_at dX10_changed_214 hM.1 (by decide) rfl rfl (Nat.le_of_ble_eq_true rfl) ?_
        rw [hN j (by omega)]
        refine r_isub dX10_changed_217 ?_
        refine r_goto (tgt := 236) dX10_changed_218 (by decide) ?_
        refine r_iadd dX10_changed_236 ?_
        refine r_istore dX10_changed_237 (by decide) ?_
        refine r_iinc (v := nI (j + 1)) dX10_changed_239 rfl (nI_inc j) ?_
        refine r_goto (tgt := 149) dX10_changed_242 (by decide) ?_
        have hx := w_ch2 m h k v w F1 H M fs A B Q N x6 x7 hM hH hH8 hM20 hF hl hr hq hR hQ hN hB hE c (j + 1) (by omega)
        rw [show chC A B (j + 1) = chC A B j + 0 from by show chC A B j + (if A j = B j then 0 else 1) = _; rw [if_pos c1], show faR Q N (j + 1) = faR Q N j + (Q j - N j) from by show faR Q N j + (if N j < Q j then Q j - N j else N j - Q j) = _; rw [if_pos c2]] at hx
        exact hx
      · skip
        refine r_iload dX10_changed_149 rfl ?_
        refine r_aload_n dX10_changed_151 rfl ?_
        refine r_getI dX10_changed_152 fl_X10_350 rfl hM.1 ?_
        rw [hH]
        refine r_icmp_ge (tgt := 245) dX10_changed_155 (by decide) (fun hz => absurd hz (show ¬ _ from (by rw [nI_leI (by omega) (by omega)]; omega))) (fun _ => ?_)
        refine r_iload dX10_changed_158 rfl ?_
        refine r_aload_n dX10_changed_160 rfl ?_
        refine r_iload dX10_changed_161 rfl ?_
        refine r_virtE (c_X10_mayOf m j fs.length hM (by omega) hF hl) lk_X10_442 mc_X10_mayOf dX10_changed_163 hM.1 (by decide) rfl rfl (Nat.le_of_ble_eq_true rfl) ?_
        rw [my_of hM20 (show j < H by omega) fs _ hr (fun i hi => hq i _ hi (by omega))]
        refine r_aload_n dX10_changed_166 rfl ?_
        refine r_getR dX10_changed_167 fl_X10_124 rfl hM.1 (pM_68 hM) ?_
        refine r_iload dX10_changed_170 rfl ?_
        refine r_iald dX10_changed_172 (aM_68 hM) (nI_in8 8 (by omega) (by decide)) (nI_clamp (by omega)) ?_
        rw [(hR j (by omega)).1]
        refine r_icmp_eq (tgt := 180) dX10_changed_173 (by decide) (fun _ => ?_) (fun hz => absurd (show _ from (by rw [c1, hB])) hz)
        refine r_iconst (v := nI 0) dX10_changed_180 (by decide) ?_
        refine r_iadd dX10_changed_181 ?_
        rw [nI_add]
        refine r_istore dX10_changed_182 (by decide) ?_
        refine r_iload dX10_changed_184 rfl ?_
        refine r_aload_n dX10_changed_186 rfl ?_
        refine r_iconst (v := nI 0) dX10_changed_187 (by decide) ?_
        refine r_iload dX10_changed_188 rfl ?_
        refine r_virtE (c_X10_at m 0 j hM (by decide) (by omega)) lk_X10_439 mc_X10_at dX10_changed_190 hM.1 (by decide) rfl rfl (Nat.le_of_ble_eq_true rfl) ?_
        rw [hN j (by omega)]
        refine r_aload_n dX10_changed_193 rfl ?_
        refine r_getR dX10_changed_194 fl_X10_127 rfl hM.1 (pM_69 hM) ?_
        refine r_iload dX10_changed_197 rfl ?_
        refine r_iald dX10_changed_199 (aM_69 hM) (nI_in8 8 (by omega) (by decide)) (nI_clamp (by omega)) ?_
        rw [hQ j (by omega)]
        refine r_icmp_ge (tgt := 221) dX10_changed_200 (by decide) (fun _ => ?_) (fun hz => absurd (show _ from (Int32.not_lt.mp c2)) hz)
        refine r_aload_n dX10_changed_221 rfl ?_
        refine r_iconst (v := nI 0) dX10_changed_222 (by decide) ?_
        refine r_iload dX10_changed_223 rfl ?_
        refine r_virtE (c_X10_at m 0 j hM (by decide) (by omega)) lk_X10_439 mc_X10_at dX10_changed_225 hM.1 (by decide) rfl rfl (Nat.le_of_ble_eq_true rfl) ?_
        rw [hN j (by omega)]
        refine r_aload_n dX10_changed_228 rfl ?_
        refine r_getR dX10_changed_229 fl_X10_127 rfl hM.1 (pM_69 hM) ?_
        refine r_iload dX10_changed_232 rfl ?_
        refine r_iald dX10_changed_234 (aM_69 hM) (nI_in8 8 (by omega) (by decide)) (nI_clamp (by omega)) ?_
        rw [hQ j (by omega)]
        refine r_isub dX10_changed_235 ?_
        refine r_iadd dX10_changed_236 ?_
        refine r_istore dX10_changed_237 (by decide) ?_
        refine r_iinc (v := nI (j + 1)) dX10_changed_239 rfl (nI_inc j) ?_
        refine r_goto (tgt := 149) dX10_changed_242 (by decide) ?_
        have hx := w_ch2 m h k v w F1 H M fs A B Q N x6 x7 hM hH hH8 hM20 hF hl hr hq hR hQ hN hB hE c (j + 1) (by omega)
        rw [show chC A B (j + 1) = chC A B j + 0 from by show chC A B j + (if A j = B j then 0 else 1) = _; rw [if_pos c1], show faR Q N (j + 1) = faR Q N j + (N j - Q j) from by show faR Q N j + (if N j < Q j then Q j - N j else N j - Q j) = _; rw [if_neg c2]] at hx
        exact hx
    · by_cases c2 : N j < Q j
      · skip
        refine r_iload dX10_changed_149 rfl ?_
        refine r_aload_n dX10_changed_151 rfl ?_
        refine r_getI dX10_changed_152 fl_X10_350 rfl hM.1 ?_
        rw [hH]
        refine r_icmp_ge (tgt := 245) dX10_changed_155 (by decide) (fun hz => absurd hz (show ¬ _ from (by rw [nI_leI (by omega) (by omega)]; omega))) (fun _ => ?_)
        refine r_iload dX10_changed_158 rfl ?_
        refine r_aload_n dX10_changed_160 rfl ?_
        refine r_iload dX10_changed_161 rfl ?_
        refine r_virtE (c_X10_mayOf m j fs.length hM (by omega) hF hl) lk_X10_442 mc_X10_mayOf dX10_changed_163 hM.1 (by decide) rfl rfl (Nat.le_of_ble_eq_true rfl) ?_
        rw [my_of hM20 (show j < H by omega) fs _ hr (fun i hi => hq i _ hi (by omega))]
        refine r_aload_n dX10_changed_166 rfl ?_
        refine r_getR dX10_changed_167 fl_X10_124 rfl hM.1 (pM_68 hM) ?_
        refine r_iload dX10_changed_170 rfl ?_
        refine r_iald dX10_changed_172 (aM_68 hM) (nI_in8 8 (by omega) (by decide)) (nI_clamp (by omega)) ?_
        rw [(hR j (by omega)).1]
        refine r_icmp_eq (tgt := 180) dX10_changed_173 (by decide) (fun hz => absurd hz (show ¬ _ from (by rw [nI_eq (Nat.lt_of_lt_of_le (mayN_lt hr hM20 (by omega)) (by decide)) (hR j (by omega)).2]; exact fun q => c1 (by rw [hB]; exact q.symm)))) (fun _ => ?_)
        refine r_iconst (v := nI 1) dX10_changed_176 (by decide) ?_
        refine r_goto (tgt := 181) dX10_changed_177 (by decide) ?_
        refine r_iadd dX10_changed_181 ?_
        rw [nI_add]
        refine r_istore dX10_changed_182 (by decide) ?_
        refine r_iload dX10_changed_184 rfl ?_
        refine r_aload_n dX10_changed_186 rfl ?_
        refine r_iconst (v := nI 0) dX10_changed_187 (by decide) ?_
        refine r_iload dX10_changed_188 rfl ?_
        refine r_virtE (c_X10_at m 0 j hM (by decide) (by omega)) lk_X10_439 mc_X10_at dX10_changed_190 hM.1 (by decide) rfl rfl (Nat.le_of_ble_eq_true rfl) ?_
        rw [hN j (by omega)]
        refine r_aload_n dX10_changed_193 rfl ?_
        refine r_getR dX10_changed_194 fl_X10_127 rfl hM.1 (pM_69 hM) ?_
        refine r_iload dX10_changed_197 rfl ?_
        refine r_iald dX10_changed_199 (aM_69 hM) (nI_in8 8 (by omega) (by decide)) (nI_clamp (by omega)) ?_
        rw [hQ j (by omega)]
        refine r_icmp_ge (tgt := 221) dX10_changed_200 (by decide) (fun hz => absurd hz (show ¬ _ from (Int32.not_le.mpr c2))) (fun _ => ?_)
        refine r_aload_n dX10_changed_203 rfl ?_
        refine r_getR dX10_changed_204 fl_X10_127 rfl hM.1 (pM_69 hM) ?_
        refine r_iload dX10_changed_207 rfl ?_
        refine r_iald dX10_changed_209 (aM_69 hM) (nI_in8 8 (by omega) (by decide)) (nI_clamp (by omega)) ?_
        rw [hQ j (by omega)]
        refine r_aload_n dX10_changed_210 rfl ?_
        refine r_iconst (v := nI 0) dX10_changed_211 (by decide) ?_
        refine r_iload dX10_changed_212 rfl ?_
        refine r_virtE (c_X10_at m 0 j hM (by decide) (by omega)) lk_X10_439 mc_X10_at dX10_changed_214 hM.1 (by decide) rfl rfl (Nat.le_of_ble_eq_true rfl) ?_
        rw [hN j (by omega)]
        refine r_isub dX10_changed_217 ?_
        refine r_goto (tgt := 236) dX10_changed_218 (by decide) ?_
        refine r_iadd dX10_changed_236 ?_
        refine r_istore dX10_changed_237 (by decide) ?_
        refine r_iinc (v := nI (j + 1)) dX10_changed_239 rfl (nI_inc j) ?_
        refine r_goto (tgt := 149) dX10_changed_242 (by decide) ?_
        have hx := w_ch2 m h k v w F1 H M fs A B Q N x6 x7 hM hH hH8 hM20 hF hl hr hq hR hQ hN hB hE c (j + 1) (by omega)
        rw [show chC A B (j + 1) = chC A B j + 1 from by show chC A B j + (if A j = B j then 0 else 1) = _; rw [if_neg c1], show faR Q N (j + 1) = faR Q N j + (Q j - N j) from by show faR Q N j + (if N j < Q j then Q j - N j else N j - Q j) = _; rw [if_pos c2]] at hx
        exact hx
      · skip
        refine r_iload dX10_changed_149 rfl ?_
        refine r_aload_n dX10_changed_151 rfl ?_
        refine r_getI dX10_changed_152 fl_X10_350 rfl hM.1 ?_
        rw [hH]
        refine r_icmp_ge (tgt := 245) dX10_changed_155 (by decide) (fun hz => absurd hz (show ¬ _ from (by rw [nI_leI (by omega) (by omega)]; omega))) (fun _ => ?_)
        refine r_iload dX10_changed_158 rfl ?_
        refine r_aload_n dX10_changed_160 rfl ?_
        refine r_iload dX10_changed_161 rfl ?_
        refine r_virtE (c_X10_mayOf m j fs.length hM (by omega) hF hl) lk_X10_442 mc_X10_mayOf dX10_changed_163 hM.1 (by decide) rfl rfl (Nat.le_of_ble_eq_true rfl) ?_
        rw [my_of hM20 (show j < H by omega) fs _ hr (fun i hi => hq i _ hi (by omega))]
        refine r_aload_n dX10_changed_166 rfl ?_
        refine r_getR dX10_changed_167 fl_X10_124 rfl hM.1 (pM_68 hM) ?_
        refine r_iload dX10_changed_170 rfl ?_
        refine r_iald dX10_changed_172 (aM_68 hM) (nI_in8 8 (by omega) (by decide)) (nI_clamp (by omega)) ?_
        rw [(hR j (by omega)).1]
        refine r_icmp_eq (tgt := 180) dX10_changed_173 (by decide) (fun hz => absurd hz (show ¬ _ from (by rw [nI_eq (Nat.lt_of_lt_of_le (mayN_lt hr hM20 (by omega)) (by decide)) (hR j (by omega)).2]; exact fun q => c1 (by rw [hB]; exact q.symm)))) (fun _ => ?_)
        refine r_iconst (v := nI 1) dX10_changed_176 (by decide) ?_
        refine r_goto (tgt := 181) dX10_changed_177 (by decide) ?_
        refine r_iadd dX10_changed_181 ?_
        rw [nI_add]
        refine r_istore dX10_changed_182 (by decide) ?_
        refine r_iload dX10_changed_184 rfl ?_
        refine r_aload_n dX10_changed_186 rfl ?_
        refine r_iconst (v := nI 0) dX10_changed_187 (by decide) ?_
        refine r_iload dX10_changed_188 rfl ?_
        refine r_virtE (c_X10_at m 0 j hM (by decide) (by omega)) lk_X10_439 mc_X10_at dX10_changed_190 hM.1 (by decide) rfl rfl (Nat.le_of_ble_eq_true rfl) ?_
        rw [hN j (by omega)]
        refine r_aload_n dX10_changed_193 rfl ?_
        refine r_getR dX10_changed_194 fl_X10_127 rfl hM.1 (pM_69 hM) ?_
        refine r_iload dX10_changed_197 rfl ?_
        refine r_iald dX10_changed_199 (aM_69 hM) (nI_in8 8 (by omega) (by decide)) (nI_clamp (by omega)) ?_
        rw [hQ j (by omega)]
        refine r_icmp_ge (tgt := 221) dX10_changed_200 (by decide) (fun _ => ?_) (fun hz => absurd (show _ from (Int32.not_lt.mp c2)) hz)
        refine r_aload_n dX10_changed_221 rfl ?_
        refine r_iconst (v := nI 0) dX10_changed_222 (by decide) ?_
        refine r_iload dX10_changed_223 rfl ?_
        refine r_virtE (c_X10_at m 0 j hM (by decide) (by omega)) lk_X10_439 mc_X10_at dX10_changed_225 hM.1 (by decide) rfl rfl (Nat.le_of_ble_eq_true rfl) ?_
        rw [hN j (by omega)]
        refine r_aload_n dX10_changed_228 rfl ?_
        refine r_getR dX10_changed_229 fl_X10_127 rfl hM.1 (pM_69 hM) ?_
        refine r_iload dX10_changed_232 rfl ?_
        refine r_iald dX10_changed_234 (aM_69 hM) (nI_in8 8 (by omega) (by decide)) (nI_clamp (by omega)) ?_
        rw [hQ j (by omega)]
        refine r_isub dX10_changed_235 ?_
        refine r_iadd dX10_changed_236 ?_
        refine r_istore dX10_changed_237 (by decide) ?_
        refine r_iinc (v := nI (j + 1)) dX10_changed_239 rfl (nI_inc j) ?_
        refine r_goto (tgt := 149) dX10_changed_242 (by decide) ?_
        have hx := w_ch2 m h k v w F1 H M fs A B Q N x6 x7 hM hH hH8 hM20 hF hl hr hq hR hQ hN hB hE c (j + 1) (by omega)
        rw [show chC A B (j + 1) = chC A B j + 1 from by show chC A B j + (if A j = B j then 0 else 1) = _; rw [if_neg c1], show faR Q N (j + 1) = faR Q N j + (N j - Q j) from by show faR Q N j + (if N j < Q j then Q j - N j else N j - Q j) = _; rw [if_neg c2]] at hx
        exact hx

set_option maxHeartbeats 4000000 in
set_option maxRecDepth 100000 in
theorem q_changed (m : Nat) (h k v w : Nat) {t : Nat} {T : Nat → Nat} {fp : Int32} {rr : Nat → Int32} {H M : Nat} {un : Bool} {cs : Nat → List Nat} {tx : Nat → List Int32} {e : Lf} {im : Option Lf} {wk : Option (List Nat)} {n : Nat} {kd : mK} {I : mI} {J : mJ} {P : mP} (hC : RR m kd I P t T fp rr H M un cs tx e im wk) (hz : okZ t T H M cs e) (hh : h < H) (hk2 : k < 2) (hw2 : w < 2) (hv : v ≤ 99) : Ct yX10_changed cX10_changed 11 (some .int) 10 0 0 [.ref m, .int (nI h), .int (nI k), .int (nI v), .int (nI w)] n kd I J P (pQ m n kd I J P (some (.int (chV H M un cs e (putE e k h v) w))) 0 (RX m t T fp rr H M un cs tx e im wk)) := by
  refine ct_of 6 (by decide +kernel) (Nat.le_of_ble_eq_true rfl) rfl ?_
  refine r_aload_n dX10_changed_0 rfl ?_
  refine r_iconst (v := nI 0) dX10_changed_1 (by decide) ?_
  refine r_putI dX10_changed_2 fl_X10_193 rfl rfl (kM_0 hC.1) ?_
  refine q_th hC (fun I hC h0 => ?_)
  have hC0 := hC
  have hz0 := hz
  obtain ⟨hM, hT, hSt, hLf, hIm, hWk⟩ := hC
  obtain ⟨okt, oks, okl⟩ := hz
  have hH8 : H ≤ 8 := oks.2.1
  have hM20 : 2 ≤ M ∧ M ≤ 20 := oks.1
  have hH : I m 1 = nI H := hSt.1.1
  have hMo : I m 2 = nI M := hSt.1.2.1
  rcases gd2 (gdN H M un cs e) with hg | hg
  · rw [show chV H M un cs e (putE e k h v) w = -2 from if_neg (by rw [hg]; decide)]
    refine r_aload_n dX10_changed_5 rfl ?_
    refine r_iload_n dX10_changed_6 rfl ?_
    refine r_virtE (c_X10_isHouse m (nI h) hM h0) lk_X10_373 mc_X10_isHouse dX10_changed_7 (kM_0 hM) (by decide) rfl rfl (Nat.le_of_ble_eq_true rfl) ?_
    rw [show (!decide (nI h < 0) && decide (nI h < I m 1)) = true from by rw [hH]; exact (isH_of hh (by omega)), thM_ok]
    refine r_if_eq (tgt := 45) dX10_changed_10 (by decide) (fun hz => absurd hz (show ¬ _ from (by decide))) (fun _ => ?_)
    refine r_aload_n dX10_changed_13 rfl ?_
    refine r_iload_n dX10_changed_14 rfl ?_
    refine r_virtE (c_X10_isTwo m (nI k) hM h0) lk_X10_379 mc_X10_isTwo dX10_changed_15 (kM_0 hM) (by decide) rfl rfl (Nat.le_of_ble_eq_true rfl) ?_
    rw [show (decide (nI k = 0) || decide (nI k = nI 1)) = true from two_of hk2, thM_ok]
    refine r_if_eq (tgt := 45) dX10_changed_18 (by decide) (fun hz => absurd hz (show ¬ _ from (by decide))) (fun _ => ?_)
    refine r_aload_n dX10_changed_21 rfl ?_
    refine r_iload dX10_changed_22 rfl ?_
    refine r_virtE (c_X10_isTwo m (nI w) hM h0) lk_X10_379 mc_X10_isTwo dX10_changed_24 (kM_0 hM) (by decide) rfl rfl (Nat.le_of_ble_eq_true rfl) ?_
    rw [show (decide (nI w = 0) || decide (nI w = nI 1)) = true from two_of hw2, thM_ok]
    refine r_if_eq (tgt := 45) dX10_changed_27 (by decide) (fun hz => absurd hz (show ¬ _ from (by decide))) (fun _ => ?_)
    refine r_aload_n dX10_changed_30 rfl ?_
    refine r_iload_n dX10_changed_31 rfl ?_
    refine r_iconst (v := nI 0) dX10_changed_32 (by decide) ?_
    refine r_bipush (v := nI 99) dX10_changed_33 (by decide) ?_
    refine r_statE (c_X10_within (nI v) (nI 0) (nI 99)) lk_X10_369 mc_X10_within dX10_changed_35 (by decide) rfl rfl (Nat.le_of_ble_eq_true rfl) ?_
    rw [show (!decide (nI v < nI 0) && !decide (nI 99 < nI v)) = true from wi_of (by omega) hv (by decide)]
    refine r_iconst (v := nI 2) dX10_changed_38 (by decide) ?_
    refine r_virtE (c_X10_right m true (nI 2) hM h0 (by decide)) lk_X10_343 mc_X10_right dX10_changed_39 (kM_0 hM) (by decide) rfl rfl (Nat.le_of_ble_eq_true rfl) ?_
    rw [thM_ok]
    refine r_if_ne (tgt := 47) dX10_changed_42 (by decide) (fun _ => ?_) (fun hz => absurd hz (show ¬ _ from (by decide)))
    refine r_aload_n dX10_changed_47 rfl ?_
    refine r_virt (kc2 := 0) (ks2 := 0) (q_seeksAll m hC0 hz0) lk_X10_436 mc_X10_seeksAll dX10_changed_48 (kM_0 hM) (by decide) rfl rfl (Nat.le_of_ble_eq_true rfl) (by decide) (by decide) (fun _ _ _ _ _ _ h => nomatch h.1) ?_
    rintro v1 n1 kd1 I1 J1 P1 ⟨h00, rfl, rfl, rfl, rfl, hfr, hfd⟩
    cases h00
    simp only [Option.toList, List.nil_append, List.cons_append]
    have hC1 := RR.rf hfr hC0
    have h01 : I1 m 0 = 0 := by rw [hfr.2 0 (by decide) (by decide)]; exact h0
    have hH1 := hC1.2.2.1.1.1
    have hMo1 := hC1.2.2.1.1.2.1
    rw [hg]
    refine r_if_ne (tgt := 57) dX10_changed_51 (by decide) (fun hz => absurd (show _ from rfl) hz) (fun _ => ?_)
    refine r_bipush (v := (-2)) dX10_changed_54 (by decide) ?_
    refine r_iret rfl dX10_changed_56 ?_
    exact ⟨rfl, rfl, rfl, rfl, fun a ha => ⟨hfr.1 a (by omega) (by omega) (by omega) (by omega), rfl⟩, h01, hC1⟩
  · have hl : (fsN H M un cs e).length ≤ 1000 := gd_len hg
    refine r_aload_n dX10_changed_5 rfl ?_
    refine r_iload_n dX10_changed_6 rfl ?_
    refine r_virtE (c_X10_isHouse m (nI h) hM h0) lk_X10_373 mc_X10_isHouse dX10_changed_7 (kM_0 hM) (by decide) rfl rfl (Nat.le_of_ble_eq_true rfl) ?_
    rw [show (!decide (nI h < 0) && decide (nI h < I m 1)) = true from by rw [hH]; exact (isH_of hh (by omega)), thM_ok]
    refine r_if_eq (tgt := 45) dX10_changed_10 (by decide) (fun hz => absurd hz (show ¬ _ from (by decide))) (fun _ => ?_)
    refine r_aload_n dX10_changed_13 rfl ?_
    refine r_iload_n dX10_changed_14 rfl ?_
    refine r_virtE (c_X10_isTwo m (nI k) hM h0) lk_X10_379 mc_X10_isTwo dX10_changed_15 (kM_0 hM) (by decide) rfl rfl (Nat.le_of_ble_eq_true rfl) ?_
    rw [show (decide (nI k = 0) || decide (nI k = nI 1)) = true from two_of hk2, thM_ok]
    refine r_if_eq (tgt := 45) dX10_changed_18 (by decide) (fun hz => absurd hz (show ¬ _ from (by decide))) (fun _ => ?_)
    refine r_aload_n dX10_changed_21 rfl ?_
    refine r_iload dX10_changed_22 rfl ?_
    refine r_virtE (c_X10_isTwo m (nI w) hM h0) lk_X10_379 mc_X10_isTwo dX10_changed_24 (kM_0 hM) (by decide) rfl rfl (Nat.le_of_ble_eq_true rfl) ?_
    rw [show (decide (nI w = 0) || decide (nI w = nI 1)) = true from two_of hw2, thM_ok]
    refine r_if_eq (tgt := 45) dX10_changed_27 (by decide) (fun hz => absurd hz (show ¬ _ from (by decide))) (fun _ => ?_)
    refine r_aload_n dX10_changed_30 rfl ?_
    refine r_iload_n dX10_changed_31 rfl ?_
    refine r_iconst (v := nI 0) dX10_changed_32 (by decide) ?_
    refine r_bipush (v := nI 99) dX10_changed_33 (by decide) ?_
    refine r_statE (c_X10_within (nI v) (nI 0) (nI 99)) lk_X10_369 mc_X10_within dX10_changed_35 (by decide) rfl rfl (Nat.le_of_ble_eq_true rfl) ?_
    rw [show (!decide (nI v < nI 0) && !decide (nI 99 < nI v)) = true from wi_of (by omega) hv (by decide)]
    refine r_iconst (v := nI 2) dX10_changed_38 (by decide) ?_
    refine r_virtE (c_X10_right m true (nI 2) hM h0 (by decide)) lk_X10_343 mc_X10_right dX10_changed_39 (kM_0 hM) (by decide) rfl rfl (Nat.le_of_ble_eq_true rfl) ?_
    rw [thM_ok]
    refine r_if_ne (tgt := 47) dX10_changed_42 (by decide) (fun _ => ?_) (fun hz => absurd hz (show ¬ _ from (by decide)))
    refine r_aload_n dX10_changed_47 rfl ?_
    refine r_virt (kc2 := 0) (ks2 := 0) (q_seeksAll m hC0 hz0) lk_X10_436 mc_X10_seeksAll dX10_changed_48 (kM_0 hM) (by decide) rfl rfl (Nat.le_of_ble_eq_true rfl) (by decide) (by decide) (fun _ _ _ _ _ _ h => nomatch h.1) ?_
    rintro v1 n1 kd1 I1 J1 P1 ⟨h00, rfl, rfl, rfl, rfl, hfr, hfd⟩
    cases h00
    simp only [Option.toList, List.nil_append, List.cons_append]
    have hC1 := RR.rf hfr hC0
    have h01 : I1 m 0 = 0 := by rw [hfr.2 0 (by decide) (by decide)]; exact h0
    have hH1 := hC1.2.2.1.1.1
    have hMo1 := hC1.2.2.1.1.2.1
    rw [hg]
    refine r_if_ne (tgt := 57) dX10_changed_51 (by decide) (fun _ => ?_) (fun hz => absurd hz (show ¬ _ from (by decide)))
    refine r_aload_n dX10_changed_57 rfl ?_
    refine r_getI dX10_changed_58 fl_X10_413 rfl hM.1 ?_
    rw [(hfd hg).1]
    refine r_istore dX10_changed_61 (by decide) ?_
    refine r_iconst (v := nI 0) dX10_changed_63 (by decide) ?_
    refine r_istore dX10_changed_64 (by decide) ?_
    have hrg := fs_rng (un := un) (cs := cs) (e := e) hH8 hM20.2
    have hx := w_ch1 (n := n1) (kd := kd1) (I := I1) (J := J1) (P := P1) m h k v w (fsN H M un cs e).length H M (fsN H M un cs e) none none none none (post := pQ m n1 kd1 I J1 P1 (some (.int (chV H M un cs e (putE e k h v) w))) 0 (RX m t T fp rr H M un cs tx e im wk)) hM hH1 hH8 hM20.2 (hfd hg).1 rfl hl hrg (hfd hg).2.2 (fun R Q hR hQ => ?_) H 0 (I1 (m + 34)) (I1 (m + 35)) (by omega) (fun i hi => absurd hi (by omega)) (fun i hi => absurd hi (by omega))
    · rw [am_up_id, am_up_id] at hx
      exact hx
    · have hC2 : RR m kd1 (va_up (va_up I1 (m + 34) R) (m + 35) Q) P1 t T fp rr H M un cs tx e im wk := RR.qu (I := I1) (fun a a1 a2 a3 a4 => by rw [am_up_n _ _ (by omega), am_up_n _ _ (by omega)]) (fun j hj => by rw [am_up_n _ _ (by omega), am_up_n _ _ (by omega)]) hC1
      have hm2 : ∀ j, (va_up (va_up I1 (m + 34) R) (m + 35) Q) m j = I1 m j := fun j => by rw [am_up_n _ _ (by omega), am_up_n _ _ (by omega)]
      have hu2 : ∀ a, (a < m ∨ m + 55 < a) → (va_up (va_up I1 (m + 34) R) (m + 35) Q) a = I1 a := fun a ha => by rw [am_up_n _ _ (by omega), am_up_n _ _ (by omega)]
      have hr34 : ∀ i, i < H → (va_up (va_up I1 (m + 34) R) (m + 35) Q) (m + 34) i = nI (mayN (fsN H M un cs e) i) := fun i hi => by rw [am_up_n _ _ (by omega), am_up_s]; exact hR i hi
      have hr35 : ∀ i, i < H → (va_up (va_up I1 (m + 34) R) (m + 35) Q) (m + 35) i = I1 (m + 27) (8 * 0 + i) := fun i hi => by rw [am_up_s]; exact hQ i hi
      generalize (va_up (va_up I1 (m + 34) R) (m + 35) Q) = I2 at hC2 hm2 hu2 hr34 hr35 ⊢
      rcases gd2 (gdN H M un cs (putE e k h v)) with hg2 | hg2
      · rw [show chV H M un cs e (putE e k h v) w = -2 from by unfold chV; rw [if_pos hg, if_neg (by rw [hg2]; decide)]]
        refine r_aload_n dX10_changed_108 rfl ?_
        refine r_iload_n dX10_changed_109 rfl ?_
        refine r_iload_n dX10_changed_110 rfl ?_
        refine r_iload_n dX10_changed_111 rfl ?_
        refine r_virtE (c_X10_turns m h k (nI v) hM (by omega) (by omega)) lk_X10_385 mc_X10_turns dX10_changed_112 hM.1 (by decide) rfl rfl (Nat.le_of_ble_eq_true rfl) ?_
        have hv9 := turn_v (k := k) hh hC2.2.2.2.1
        rw [hv9]
        have hrl3 := rL_turn (k := k) (h := h) (v := v) (fun a1 a2 => absurd hk2 (by omega)) hC2.2.2.2.1
        have hC3 : RR m kd1 (turnM I2 m k h (nI v)) P1 t T fp rr H M un cs tx (putE e k h v) im wk := RR.up (I := I2) (fun a a1 a2 a3 a4 a5 a6 a7 => turn_fr a3 a4 a5) (fun j hj => by rw [turn_m]) hrl3 hC2
        have hz3 : okZ t T H M cs (putE e k h v) := ⟨okt, oks, okL_put hv okl⟩
        have hf3 : ∀ a, a ≠ m + 1 → a ≠ m + 2 → a ≠ m + 4 → turnM I2 m k h (nI v) a = I2 a := fun a a1 a2 a4 => turn_fr a1 a2 a4
        generalize turnM I2 m k h (nI v) = I3 at hC3 hf3 ⊢
        refine r_istore dX10_changed_115 (by decide) ?_
        refine r_aload_n dX10_changed_117 rfl ?_
        refine r_virt (kc2 := 0) (ks2 := 0) (q_seeksAll m hC3 hz3) lk_X10_436 mc_X10_seeksAll dX10_changed_118 hM.1 (by decide) rfl rfl (Nat.le_of_ble_eq_true rfl) (by decide) (by decide) (fun _ _ _ _ _ _ h => nomatch h.1) ?_
        rintro v4 n4 kd4 I4 J4 P4 ⟨h00, rfl, rfl, rfl, rfl, hfr4, hfd4⟩
        cases h00
        simp only [Option.toList, List.nil_append, List.cons_append]
        have hC4 := RR.rf hfr4 hC3
        refine r_istore dX10_changed_121 (by decide) ?_
        refine r_aload_n dX10_changed_123 rfl ?_
        refine r_iload_n dX10_changed_124 rfl ?_
        refine r_iload_n dX10_changed_125 rfl ?_
        refine r_iload dX10_changed_126 rfl ?_
        refine r_virtE (c_X10_turns m h k (nI (hadE e k h)) hM (by omega) (by omega)) lk_X10_385 mc_X10_turns dX10_changed_128 hM.1 (by decide) rfl rfl (Nat.le_of_ble_eq_true rfl) ?_
        have hd9 := (hadE_le (k := k) hh okl).1
        have hrl5 := rL_turn (k := k) (h := h) (v := hadE e k h) (fun a1 a2 => absurd hk2 (by omega)) hC4.2.2.2.1
        rw [putE_back hk2] at hrl5
        have hC5 : RR m kd4 (turnM I4 m k h (nI (hadE e k h))) P4 t T fp rr H M un cs tx e im wk := RR.up (I := I4) (fun a a1 a2 a3 a4 a5 a6 a7 => turn_fr a3 a4 a5) (fun j hj => by rw [turn_m]) hrl5 hC4
        have hf5 : ∀ a, a ≠ m + 1 → a ≠ m + 2 → a ≠ m + 4 → turnM I4 m k h (nI (hadE e k h)) a = I4 a := fun a a1 a2 a4 => turn_fr a1 a2 a4
        generalize turnM I4 m k h (nI (hadE e k h)) = I5 at hC5 hf5 ⊢
        have hm5 : I5 m = I4 m := hf5 m (by omega) (by omega) (by omega)
        have h05 : I5 m 0 = 0 := by rw [hm5, hfr4.2 0 (by decide) (by decide), hf3 m (by omega) (by omega) (by omega), hm2]; exact h01
        have hu5 : ∀ a, (a < m ∨ m + 55 < a) → I5 a = I a := fun a ha => by rw [hf5 a (by omega) (by omega) (by omega), hfr4.1 a (by omega) (by omega) (by omega) (by omega), hf3 a (by omega) (by omega) (by omega), hu2 a ha, hfr.1 a (by omega) (by omega) (by omega) (by omega)]
        have hr534 : ∀ i, i < H → I5 (m + 34) i = nI (mayN (fsN H M un cs e) i) := fun i hi => by rw [hf5 _ (by omega) (by omega) (by omega), hfr4.1 _ (by omega) (by omega) (by omega) (by omega), hf3 _ (by omega) (by omega) (by omega)]; exact hr34 i hi
        have hr535 : ∀ i, i < H → I5 (m + 35) i = I1 (m + 27) (8 * 0 + i) := fun i hi => by rw [hf5 _ (by omega) (by omega) (by omega), hfr4.1 _ (by omega) (by omega) (by omega) (by omega), hf3 _ (by omega) (by omega) (by omega)]; exact hr35 i hi
        refine r_pop dX10_changed_131 rfl ?_
        refine r_iload dX10_changed_132 rfl ?_
        refine r_if_ne (tgt := 140) dX10_changed_134 (by decide) (fun hz => absurd (show _ from (by rw [hg2]; rfl)) hz) (fun _ => ?_)
        refine r_bipush (v := (-2)) dX10_changed_137 (by decide) ?_
        refine r_iret rfl dX10_changed_139 ?_
        exact ⟨rfl, rfl, rfl, rfl, fun a ha => ⟨hu5 a ha, rfl⟩, h05, hC5⟩
      · have hl2 : (fsN H M un cs (putE e k h v)).length ≤ 1000 := gd_len hg2
        refine r_aload_n dX10_changed_108 rfl ?_
        refine r_iload_n dX10_changed_109 rfl ?_
        refine r_iload_n dX10_changed_110 rfl ?_
        refine r_iload_n dX10_changed_111 rfl ?_
        refine r_virtE (c_X10_turns m h k (nI v) hM (by omega) (by omega)) lk_X10_385 mc_X10_turns dX10_changed_112 hM.1 (by decide) rfl rfl (Nat.le_of_ble_eq_true rfl) ?_
        have hv9 := turn_v (k := k) hh hC2.2.2.2.1
        rw [hv9]
        have hrl3 := rL_turn (k := k) (h := h) (v := v) (fun a1 a2 => absurd hk2 (by omega)) hC2.2.2.2.1
        have hC3 : RR m kd1 (turnM I2 m k h (nI v)) P1 t T fp rr H M un cs tx (putE e k h v) im wk := RR.up (I := I2) (fun a a1 a2 a3 a4 a5 a6 a7 => turn_fr a3 a4 a5) (fun j hj => by rw [turn_m]) hrl3 hC2
        have hz3 : okZ t T H M cs (putE e k h v) := ⟨okt, oks, okL_put hv okl⟩
        have hf3 : ∀ a, a ≠ m + 1 → a ≠ m + 2 → a ≠ m + 4 → turnM I2 m k h (nI v) a = I2 a := fun a a1 a2 a4 => turn_fr a1 a2 a4
        generalize turnM I2 m k h (nI v) = I3 at hC3 hf3 ⊢
        refine r_istore dX10_changed_115 (by decide) ?_
        refine r_aload_n dX10_changed_117 rfl ?_
        refine r_virt (kc2 := 0) (ks2 := 0) (q_seeksAll m hC3 hz3) lk_X10_436 mc_X10_seeksAll dX10_changed_118 hM.1 (by decide) rfl rfl (Nat.le_of_ble_eq_true rfl) (by decide) (by decide) (fun _ _ _ _ _ _ h => nomatch h.1) ?_
        rintro v4 n4 kd4 I4 J4 P4 ⟨h00, rfl, rfl, rfl, rfl, hfr4, hfd4⟩
        cases h00
        simp only [Option.toList, List.nil_append, List.cons_append]
        have hC4 := RR.rf hfr4 hC3
        refine r_istore dX10_changed_121 (by decide) ?_
        refine r_aload_n dX10_changed_123 rfl ?_
        refine r_iload_n dX10_changed_124 rfl ?_
        refine r_iload_n dX10_changed_125 rfl ?_
        refine r_iload dX10_changed_126 rfl ?_
        refine r_virtE (c_X10_turns m h k (nI (hadE e k h)) hM (by omega) (by omega)) lk_X10_385 mc_X10_turns dX10_changed_128 hM.1 (by decide) rfl rfl (Nat.le_of_ble_eq_true rfl) ?_
        have hd9 := (hadE_le (k := k) hh okl).1
        have hrl5 := rL_turn (k := k) (h := h) (v := hadE e k h) (fun a1 a2 => absurd hk2 (by omega)) hC4.2.2.2.1
        rw [putE_back hk2] at hrl5
        have hC5 : RR m kd4 (turnM I4 m k h (nI (hadE e k h))) P4 t T fp rr H M un cs tx e im wk := RR.up (I := I4) (fun a a1 a2 a3 a4 a5 a6 a7 => turn_fr a3 a4 a5) (fun j hj => by rw [turn_m]) hrl5 hC4
        have hf5 : ∀ a, a ≠ m + 1 → a ≠ m + 2 → a ≠ m + 4 → turnM I4 m k h (nI (hadE e k h)) a = I4 a := fun a a1 a2 a4 => turn_fr a1 a2 a4
        generalize turnM I4 m k h (nI (hadE e k h)) = I5 at hC5 hf5 ⊢
        have hm5 : I5 m = I4 m := hf5 m (by omega) (by omega) (by omega)
        have h05 : I5 m 0 = 0 := by rw [hm5, hfr4.2 0 (by decide) (by decide), hf3 m (by omega) (by omega) (by omega), hm2]; exact h01
        have hu5 : ∀ a, (a < m ∨ m + 55 < a) → I5 a = I a := fun a ha => by rw [hf5 a (by omega) (by omega) (by omega), hfr4.1 a (by omega) (by omega) (by omega) (by omega), hf3 a (by omega) (by omega) (by omega), hu2 a ha, hfr.1 a (by omega) (by omega) (by omega) (by omega)]
        have hr534 : ∀ i, i < H → I5 (m + 34) i = nI (mayN (fsN H M un cs e) i) := fun i hi => by rw [hf5 _ (by omega) (by omega) (by omega), hfr4.1 _ (by omega) (by omega) (by omega) (by omega), hf3 _ (by omega) (by omega) (by omega)]; exact hr34 i hi
        have hr535 : ∀ i, i < H → I5 (m + 35) i = I1 (m + 27) (8 * 0 + i) := fun i hi => by rw [hf5 _ (by omega) (by omega) (by omega), hfr4.1 _ (by omega) (by omega) (by omega) (by omega), hf3 _ (by omega) (by omega) (by omega)]; exact hr35 i hi
        refine r_pop dX10_changed_131 rfl ?_
        refine r_iload dX10_changed_132 rfl ?_
        refine r_if_ne (tgt := 140) dX10_changed_134 (by decide) (fun _ => ?_) (fun hz => absurd hz (show ¬ _ from (by rw [hg2]; decide)))
        refine r_iconst (v := nI 0) dX10_changed_140 (by decide) ?_
        refine r_istore dX10_changed_141 (by decide) ?_
        refine r_iconst (v := nI 0) dX10_changed_143 (by decide) ?_
        refine r_istore dX10_changed_144 (by decide) ?_
        refine r_iconst (v := nI 0) dX10_changed_146 (by decide) ?_
        refine r_istore dX10_changed_147 (by decide) ?_
        have hrg2 := fs_rng (un := un) (cs := cs) (e := (putE e k h v)) hH8 hM20.2
        refine w_ch2 m h k v w (fsN H M un cs e).length H M (fsN H M un cs (putE e k h v)) (mayN (fsN H M un cs e)) (mayN (fsN H M un cs (putE e k h v))) (fun i => I1 (m + 27) (8 * 0 + i)) (fun i => I5 (m + 27) (8 * 0 + i)) _ _ hM hC5.2.2.1.1.1 hH8 hM20.2 (by rw [hm5]; exact (hfd4 hg2).1) hl2 hrg2 (fun i h9 hi hh9 => by rw [hf5 _ (by omega) (by omega) (by omega)]; exact (hfd4 hg2).2.2 i h9 hi hh9) (fun i hi => ⟨hr534 i hi, Nat.lt_of_lt_of_le (mayN_lt hrg hM20.2 hi) (by decide)⟩) hr535 (fun i hi => rfl) rfl ?_ H 0 (by omega)
        by_cases c8 : w = 0
        · skip
          rw [show chV H M un cs e (putE e k h v) w = nI (chC (mayN (fsN H M un cs e)) (mayN (fsN H M un cs (putE e k h v))) H) from by unfold chV; rw [if_pos hg, if_pos hg2, if_pos c8]]
          refine r_iload dX10_changed_245 rfl ?_
          refine r_if_ne (tgt := 255) dX10_changed_247 (by decide) (fun hz => absurd (show _ from (by rw [c8]; rfl)) hz) (fun _ => ?_)
          refine r_iload dX10_changed_250 rfl ?_
          refine r_goto (tgt := 273) dX10_changed_252 (by decide) ?_
          refine r_iret rfl dX10_changed_273 ?_
          exact ⟨rfl, rfl, rfl, rfl, fun a ha => ⟨hu5 a ha, rfl⟩, h05, hC5⟩
        · by_cases c9 : (fsN H M un cs e).length = 0 ∨ (fsN H M un cs (putE e k h v)).length = 0
          · skip
            rw [show chV H M un cs e (putE e k h v) w = -1 from by unfold chV; rw [if_pos hg, if_pos hg2, if_neg c8, if_pos c9]]
            by_cases c7 : (fsN H M un cs e).length = 0
            · skip
              refine r_iload dX10_changed_245 rfl ?_
              refine r_if_ne (tgt := 255) dX10_changed_247 (by decide) (fun _ => ?_) (fun hz => absurd hz (show ¬ _ from (nI_ne0 (by omega) (by omega))))
              refine r_iload dX10_changed_255 rfl ?_
              refine r_if_eq (tgt := 267) dX10_changed_257 (by decide) (fun _ => ?_) (fun hz => absurd (show _ from (by rw [c7]; rfl)) hz)
              refine r_iconst (v := (-1)) dX10_changed_267 (by decide) ?_
              refine r_goto (tgt := 273) dX10_changed_268 (by decide) ?_
              refine r_iret rfl dX10_changed_273 ?_
              exact ⟨rfl, rfl, rfl, rfl, fun a ha => ⟨hu5 a ha, rfl⟩, h05, hC5⟩
            · skip
              refine r_iload dX10_changed_245 rfl ?_
              refine r_if_ne (tgt := 255) dX10_changed_247 (by decide) (fun _ => ?_) (fun hz => absurd hz (show ¬ _ from (nI_ne0 (by omega) (by omega))))
              refine r_iload dX10_changed_255 rfl ?_
              refine r_if_eq (tgt := 267) dX10_changed_257 (by decide) (fun hz => absurd hz (show ¬ _ from (nI_ne0 (by omega) (by omega)))) (fun _ => ?_)
              refine r_aload_n dX10_changed_260 rfl ?_
              refine r_getI dX10_changed_261 fl_X10_413 rfl hM.1 ?_
              rw [hm5, (hfd4 hg2).1]
              refine r_if_ne (tgt := 271) dX10_changed_264 (by decide) (fun hz => absurd (show _ from (by rw [c9.resolve_left c7]; rfl)) hz) (fun _ => ?_)
              refine r_iconst (v := (-1)) dX10_changed_267 (by decide) ?_
              refine r_goto (tgt := 273) dX10_changed_268 (by decide) ?_
              refine r_iret rfl dX10_changed_273 ?_
              exact ⟨rfl, rfl, rfl, rfl, fun a ha => ⟨hu5 a ha, rfl⟩, h05, hC5⟩
          · skip
            rw [show chV H M un cs e (putE e k h v) w = nI (chF (nmF (fsN H M un cs e) 0) (nmF (fsN H M un cs (putE e k h v)) 0) H) from by unfold chV; rw [if_pos hg, if_pos hg2, if_neg c8, if_neg c9]]
            refine r_iload dX10_changed_245 rfl ?_
            refine r_if_ne (tgt := 255) dX10_changed_247 (by decide) (fun _ => ?_) (fun hz => absurd hz (show ¬ _ from (nI_ne0 (by omega) (by omega))))
            refine r_iload dX10_changed_255 rfl ?_
            refine r_if_eq (tgt := 267) dX10_changed_257 (by decide) (fun hz => absurd hz (show ¬ _ from (nI_ne0 (by omega) (by omega)))) (fun _ => ?_)
            refine r_aload_n dX10_changed_260 rfl ?_
            refine r_getI dX10_changed_261 fl_X10_413 rfl hM.1 ?_
            rw [hm5, (hfd4 hg2).1]
            refine r_if_ne (tgt := 271) dX10_changed_264 (by decide) (fun _ => ?_) (fun hz => absurd hz (show ¬ _ from (nI_ne0 (by omega) (by omega))))
            refine r_iload dX10_changed_271 rfl ?_
            refine r_iret rfl dX10_changed_273 ?_
            rw [faR_nI (a := nmF (fsN H M un cs e) 0) (b := nmF (fsN H M un cs (putE e k h v)) 0) H (fun i hi => ⟨(hfd hg).2.2 0 i (by omega) hi, by rw [hf5 _ (by omega) (by omega) (by omega)]; exact (hfd4 hg2).2.2 0 i (by omega) hi, Nat.lt_of_le_of_lt (nm_le hrg (by omega) hi hM20.2) (by decide), Nat.lt_of_le_of_lt (nm_le hrg2 (by omega) hi hM20.2) (by decide)⟩)]
            exact ⟨rfl, rfl, rfl, rfl, fun a ha => ⟨hu5 a ha, rfl⟩, h05, hC5⟩


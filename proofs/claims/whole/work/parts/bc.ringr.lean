/-! RINGS AND LEVELS: the reference, on any state -/
theorem dX10_leans_0 : decode cX10_leans 0 = .ok (.aload_n 0, 1) := by decide +kernel
theorem dX10_leans_1 : decode cX10_leans 1 = .ok (.getfield 20, 3) := by decide +kernel
theorem dX10_leans_4 : decode cX10_leans 4 = .ok (.iload_n 1, 1) := by decide +kernel
theorem dX10_leans_5 : decode cX10_leans 5 = .ok (.iaload, 1) := by decide +kernel
theorem dX10_leans_6 : decode cX10_leans 6 = .ok (.iconst 1, 1) := by decide +kernel
theorem dX10_leans_7 : decode cX10_leans 7 = .ok (.if_icmp .ne 26, 3) := by decide +kernel
theorem dX10_leans_10 : decode cX10_leans 10 = .ok (.aload_n 0, 1) := by decide +kernel
theorem dX10_leans_11 : decode cX10_leans 11 = .ok (.getfield 23, 3) := by decide +kernel
theorem dX10_leans_14 : decode cX10_leans 14 = .ok (.iload_n 1, 1) := by decide +kernel
theorem dX10_leans_15 : decode cX10_leans 15 = .ok (.iaload, 1) := by decide +kernel
theorem dX10_leans_16 : decode cX10_leans 16 = .ok (.ifCond .ne 17, 3) := by decide +kernel
theorem dX10_leans_19 : decode cX10_leans 19 = .ok (.aload_n 0, 1) := by decide +kernel
theorem dX10_leans_20 : decode cX10_leans 20 = .ok (.iload_n 1, 1) := by decide +kernel
theorem dX10_leans_21 : decode cX10_leans 21 = .ok (.invokevirtual 376, 3) := by decide +kernel
theorem dX10_leans_24 : decode cX10_leans 24 = .ok (.iconst 1, 1) := by decide +kernel
theorem dX10_leans_25 : decode cX10_leans 25 = .ok (.iload_n 1, 1) := by decide +kernel
theorem dX10_leans_26 : decode cX10_leans 26 = .ok (.ishl, 1) := by decide +kernel
theorem dX10_leans_27 : decode cX10_leans 27 = .ok (.iconst (-1), 1) := by decide +kernel
theorem dX10_leans_28 : decode cX10_leans 28 = .ok (.ixor, 1) := by decide +kernel
theorem dX10_leans_29 : decode cX10_leans 29 = .ok (.iand, 1) := by decide +kernel
theorem dX10_leans_30 : decode cX10_leans 30 = .ok (.goto 4, 3) := by decide +kernel
theorem dX10_leans_33 : decode cX10_leans 33 = .ok (.iconst 0, 1) := by decide +kernel
theorem dX10_leans_34 : decode cX10_leans 34 = .ok (.ireturn, 1) := by decide +kernel

theorem sp_tb {H h : Nat} {cs : Nat → List Nat} {e : Lf} (hh : h < H) : (spB H cs e).testBit h = (!(cs h).isEmpty && !e.2.2.1 h) := by
  unfold spB
  rw [alB_bit, decide_eq_true hh, Bool.true_and]
theorem lnN_eq {H h : Nat} {cs : Nat → List Nat} {e : Lf} (hc : (spB H cs e).testBit h = true) : nI (lnN H cs e h) = nI (lkO cs H h) &&& ((nI 1 <<< (nI h &&& 31)) ^^^ (-1)) := by unfold lnN; rw [if_pos hc, nO_eq]
theorem lnN_0 {H h : Nat} {cs : Nat → List Nat} {e : Lf} (hc : (spB H cs e).testBit h = false) : nI (lnN H cs e h) = nI 0 := by unfold lnN; rw [if_neg (by rw [hc]; decide)]
set_option maxHeartbeats 4000000 in
set_option maxRecDepth 100000 in
theorem c_X10_leans (m h : Nat) {H M : Nat} {un : Bool} {cs : Nat → List Nat} {tx : Nat → List Int32} {e : Lf} {n : Nat} {kd : mK} {I : mI} {J : mJ} {P : mP} (hM : kM kd P m) (hSt : rS I m H M un cs tx) (hLf : rL I m H e) (oS : okS H M cs) (hh : h < H) : Ct yX10_leans cX10_leans 2 (some .int) 2 0 0 [.ref m, .int (nI h)] n kd I J P (am_is (some (.int (nI (lnN H cs e h)))) n kd I J P) := by
  have hH8 := oS.2.1
  refine ct_of 0 (by decide +kernel) (Nat.le_of_ble_eq_true rfl) rfl ?_
  by_cases c1 : cs h = []
  · skip
    refine r_aload_n dX10_leans_0 rfl ?_
    refine r_getR dX10_leans_1 fl_X10_20 rfl (kM_0 hM) (pM_6 hM) ?_
    refine r_iload_n dX10_leans_4 rfl ?_
    refine r_iald dX10_leans_5 (aM_6 hM) (nI_in8 8 (by omega) (by decide)) (nI_clamp (by omega)) ?_
    rw [(hSt.2.2 h hh).1, if_pos c1]
    refine r_iconst (v := nI 1) dX10_leans_6 (by decide) ?_
    refine r_icmp_ne (tgt := 33) dX10_leans_7 (by decide) (fun _ => ?_) (fun hz => absurd hz (show ¬ _ from (by decide)))
    refine r_iconst (v := nI 0) dX10_leans_33 (by decide) ?_
    refine r_iret rfl dX10_leans_34 ?_
    rw [lnN_0 (by rw [sp_tb hh, c1]; rfl)]
    exact am_is.mk
  · cases c2 : e.2.2.1 h
    · skip
      refine r_aload_n dX10_leans_0 rfl ?_
      refine r_getR dX10_leans_1 fl_X10_20 rfl (kM_0 hM) (pM_6 hM) ?_
      refine r_iload_n dX10_leans_4 rfl ?_
      refine r_iald dX10_leans_5 (aM_6 hM) (nI_in8 8 (by omega) (by decide)) (nI_clamp (by omega)) ?_
      rw [(hSt.2.2 h hh).1, if_neg c1]
      refine r_iconst (v := nI 1) dX10_leans_6 (by decide) ?_
      refine r_icmp_ne (tgt := 33) dX10_leans_7 (by decide) (fun hz => absurd (show _ from rfl) hz) (fun _ => ?_)
      refine r_aload_n dX10_leans_10 rfl ?_
      refine r_getR dX10_leans_11 fl_X10_23 rfl (kM_0 hM) (pM_7 hM) ?_
      refine r_iload_n dX10_leans_14 rfl ?_
      refine r_iald dX10_leans_15 (aM_7 hM) (nI_in8 8 (by omega) (by decide)) (nI_clamp (by omega)) ?_
      rw [(hLf.1 h hh).2.2, c2]
      refine r_if_ne (tgt := 33) dX10_leans_16 (by decide) (fun hz => absurd (show _ from rfl) hz) (fun _ => ?_)
      refine r_aload_n dX10_leans_19 rfl ?_
      refine r_iload_n dX10_leans_20 rfl ?_
      refine r_virtE (c_X10_looksOf m h hM (by omega)) lk_X10_376 mc_X10_looksOf dX10_leans_21 hM.1 (by decide) rfl rfl (Nat.le_of_ble_eq_true rfl) ?_
      rw [lks_r hH8 hh hSt]
      refine r_iconst (v := nI 1) dX10_leans_24 (by decide) ?_
      refine r_iload_n dX10_leans_25 rfl ?_
      refine r_ishl dX10_leans_26 ?_
      refine r_iconst (v := (-1)) dX10_leans_27 (by decide) ?_
      refine r_ixor dX10_leans_28 ?_
      refine r_iand dX10_leans_29 ?_
      refine r_goto (tgt := 34) dX10_leans_30 (by decide) ?_
      refine r_iret rfl dX10_leans_34 ?_
      rw [lnN_eq (by rw [sp_tb hh, c2]; cases hx : cs h; exact absurd hx c1; rfl)]
      exact am_is.mk
    · skip
      refine r_aload_n dX10_leans_0 rfl ?_
      refine r_getR dX10_leans_1 fl_X10_20 rfl (kM_0 hM) (pM_6 hM) ?_
      refine r_iload_n dX10_leans_4 rfl ?_
      refine r_iald dX10_leans_5 (aM_6 hM) (nI_in8 8 (by omega) (by decide)) (nI_clamp (by omega)) ?_
      rw [(hSt.2.2 h hh).1, if_neg c1]
      refine r_iconst (v := nI 1) dX10_leans_6 (by decide) ?_
      refine r_icmp_ne (tgt := 33) dX10_leans_7 (by decide) (fun hz => absurd (show _ from rfl) hz) (fun _ => ?_)
      refine r_aload_n dX10_leans_10 rfl ?_
      refine r_getR dX10_leans_11 fl_X10_23 rfl (kM_0 hM) (pM_7 hM) ?_
      refine r_iload_n dX10_leans_14 rfl ?_
      refine r_iald dX10_leans_15 (aM_7 hM) (nI_in8 8 (by omega) (by decide)) (nI_clamp (by omega)) ?_
      rw [(hLf.1 h hh).2.2, c2]
      refine r_if_ne (tgt := 33) dX10_leans_16 (by decide) (fun _ => ?_) (fun hz => absurd hz (show ¬ _ from (by decide)))
      refine r_iconst (v := nI 0) dX10_leans_33 (by decide) ?_
      refine r_iret rfl dX10_leans_34 ?_
      rw [lnN_0 (by rw [sp_tb hh, c2, Bool.not_true, Bool.and_false])]
      exact am_is.mk

theorem dX10_ringOf_0 : decode cX10_ringOf 0 = .ok (.iconst 1, 1) := by decide +kernel
theorem dX10_ringOf_1 : decode cX10_ringOf 1 = .ok (.iload_n 1, 1) := by decide +kernel
theorem dX10_ringOf_2 : decode cX10_ringOf 2 = .ok (.ishl, 1) := by decide +kernel
theorem dX10_ringOf_3 : decode cX10_ringOf 3 = .ok (.istore_n 2, 1) := by decide +kernel
theorem dX10_ringOf_4 : decode cX10_ringOf 4 = .ok (.iconst 0, 1) := by decide +kernel
theorem dX10_ringOf_5 : decode cX10_ringOf 5 = .ok (.istore_n 3, 1) := by decide +kernel
theorem dX10_ringOf_6 : decode cX10_ringOf 6 = .ok (.iconst 1, 1) := by decide +kernel
theorem dX10_ringOf_7 : decode cX10_ringOf 7 = .ok (.istore 4, 2) := by decide +kernel
theorem dX10_ringOf_9 : decode cX10_ringOf 9 = .ok (.iload 4, 2) := by decide +kernel
theorem dX10_ringOf_11 : decode cX10_ringOf 11 = .ok (.aload_n 0, 1) := by decide +kernel
theorem dX10_ringOf_12 : decode cX10_ringOf 12 = .ok (.getfield 350, 3) := by decide +kernel
theorem dX10_ringOf_15 : decode cX10_ringOf 15 = .ok (.if_icmp .gt 80, 3) := by decide +kernel
theorem dX10_ringOf_18 : decode cX10_ringOf 18 = .ok (.iconst 0, 1) := by decide +kernel
theorem dX10_ringOf_19 : decode cX10_ringOf 19 = .ok (.istore 5, 2) := by decide +kernel
theorem dX10_ringOf_21 : decode cX10_ringOf 21 = .ok (.iconst 0, 1) := by decide +kernel
theorem dX10_ringOf_22 : decode cX10_ringOf 22 = .ok (.istore 6, 2) := by decide +kernel
theorem dX10_ringOf_24 : decode cX10_ringOf 24 = .ok (.iload 6, 2) := by decide +kernel
theorem dX10_ringOf_26 : decode cX10_ringOf 26 = .ok (.aload_n 0, 1) := by decide +kernel
theorem dX10_ringOf_27 : decode cX10_ringOf 27 = .ok (.getfield 350, 3) := by decide +kernel
theorem dX10_ringOf_30 : decode cX10_ringOf 30 = .ok (.if_icmp .ge 34, 3) := by decide +kernel
theorem dX10_ringOf_33 : decode cX10_ringOf 33 = .ok (.iload 5, 2) := by decide +kernel
theorem dX10_ringOf_35 : decode cX10_ringOf 35 = .ok (.iload_n 2, 1) := by decide +kernel
theorem dX10_ringOf_36 : decode cX10_ringOf 36 = .ok (.iload 6, 2) := by decide +kernel
theorem dX10_ringOf_38 : decode cX10_ringOf 38 = .ok (.ishr, 1) := by decide +kernel
theorem dX10_ringOf_39 : decode cX10_ringOf 39 = .ok (.iconst 1, 1) := by decide +kernel
theorem dX10_ringOf_40 : decode cX10_ringOf 40 = .ok (.iand, 1) := by decide +kernel
theorem dX10_ringOf_41 : decode cX10_ringOf 41 = .ok (.iconst 1, 1) := by decide +kernel
theorem dX10_ringOf_42 : decode cX10_ringOf 42 = .ok (.if_icmp .ne 12, 3) := by decide +kernel
theorem dX10_ringOf_45 : decode cX10_ringOf 45 = .ok (.aload_n 0, 1) := by decide +kernel
theorem dX10_ringOf_46 : decode cX10_ringOf 46 = .ok (.iload 6, 2) := by decide +kernel
theorem dX10_ringOf_48 : decode cX10_ringOf 48 = .ok (.invokevirtual 496, 3) := by decide +kernel
theorem dX10_ringOf_51 : decode cX10_ringOf 51 = .ok (.goto 4, 3) := by decide +kernel
theorem dX10_ringOf_54 : decode cX10_ringOf 54 = .ok (.iconst 0, 1) := by decide +kernel
theorem dX10_ringOf_55 : decode cX10_ringOf 55 = .ok (.ior, 1) := by decide +kernel
theorem dX10_ringOf_56 : decode cX10_ringOf 56 = .ok (.istore 5, 2) := by decide +kernel
theorem dX10_ringOf_58 : decode cX10_ringOf 58 = .ok (.iinc 6 1, 3) := by decide +kernel
theorem dX10_ringOf_61 : decode cX10_ringOf 61 = .ok (.goto (-37), 3) := by decide +kernel
theorem dX10_ringOf_64 : decode cX10_ringOf 64 = .ok (.iload 5, 2) := by decide +kernel
theorem dX10_ringOf_66 : decode cX10_ringOf 66 = .ok (.iload_n 1, 1) := by decide +kernel
theorem dX10_ringOf_67 : decode cX10_ringOf 67 = .ok (.ishr, 1) := by decide +kernel
theorem dX10_ringOf_68 : decode cX10_ringOf 68 = .ok (.iconst 1, 1) := by decide +kernel
theorem dX10_ringOf_69 : decode cX10_ringOf 69 = .ok (.iand, 1) := by decide +kernel
theorem dX10_ringOf_70 : decode cX10_ringOf 70 = .ok (.iconst 1, 1) := by decide +kernel
theorem dX10_ringOf_71 : decode cX10_ringOf 71 = .ok (.if_icmp .ne 6, 3) := by decide +kernel
theorem dX10_ringOf_74 : decode cX10_ringOf 74 = .ok (.iload 4, 2) := by decide +kernel
theorem dX10_ringOf_76 : decode cX10_ringOf 76 = .ok (.ireturn, 1) := by decide +kernel
theorem dX10_ringOf_77 : decode cX10_ringOf 77 = .ok (.iload 5, 2) := by decide +kernel
theorem dX10_ringOf_79 : decode cX10_ringOf 79 = .ok (.iload_n 3, 1) := by decide +kernel
theorem dX10_ringOf_80 : decode cX10_ringOf 80 = .ok (.iconst (-1), 1) := by decide +kernel
theorem dX10_ringOf_81 : decode cX10_ringOf 81 = .ok (.ixor, 1) := by decide +kernel
theorem dX10_ringOf_82 : decode cX10_ringOf 82 = .ok (.iand, 1) := by decide +kernel
theorem dX10_ringOf_83 : decode cX10_ringOf 83 = .ok (.istore_n 2, 1) := by decide +kernel
theorem dX10_ringOf_84 : decode cX10_ringOf 84 = .ok (.iload_n 3, 1) := by decide +kernel
theorem dX10_ringOf_85 : decode cX10_ringOf 85 = .ok (.iload 5, 2) := by decide +kernel
theorem dX10_ringOf_87 : decode cX10_ringOf 87 = .ok (.ior, 1) := by decide +kernel
theorem dX10_ringOf_88 : decode cX10_ringOf 88 = .ok (.istore_n 3, 1) := by decide +kernel
theorem dX10_ringOf_89 : decode cX10_ringOf 89 = .ok (.iinc 4 1, 3) := by decide +kernel
theorem dX10_ringOf_92 : decode cX10_ringOf 92 = .ok (.goto (-83), 3) := by decide +kernel
theorem dX10_ringOf_95 : decode cX10_ringOf 95 = .ok (.iconst (-1), 1) := by decide +kernel
theorem dX10_ringOf_96 : decode cX10_ringOf 96 = .ok (.ireturn, 1) := by decide +kernel

set_option maxHeartbeats 4000000 in
set_option maxRecDepth 100000 in
theorem w_ringr1 (m h co al n9 : Nat) {H M : Nat} {un : Bool} {cs : Nat → List Nat} {tx : Nat → List Int32} {e : Lf} {n : Nat} {kd : mK} {I : mI} {J : mJ} {P : mP} {post : am_Post} (hM : kM kd P m) (hSt : rS I m H M un cs tx) (hLf : rL I m H e) (oS : okS H M cs) (hE : Ru yX10_ringOf.cls cX10_ringOf 7 (some .int) yX10_ringOf.name 9 (post) 0 0 64 [some (.ref m), some (.int (nI h)), some (.int (nI co)), some (.int (nI al)), some (.int (nI n9)), some (.int (nI (suN (lnN H cs e) co H))), some (.int (nI H))] [] n kd I J P) : ∀ (c k : Nat), k + c = H → Ru yX10_ringOf.cls cX10_ringOf 7 (some .int) yX10_ringOf.name 9 (post) 0 0 24 [some (.ref m), some (.int (nI h)), some (.int (nI co)), some (.int (nI al)), some (.int (nI n9)), some (.int (nI (suN (lnN H cs e) co k))), some (.int (nI k))] [] n kd I J P
  | 0, k, hc => by
    have hH8 := oS.2.1
    rw [show k = H by omega]
    refine r_iload dX10_ringOf_24 rfl ?_
    refine r_aload_n dX10_ringOf_26 rfl ?_
    refine r_getI dX10_ringOf_27 fl_X10_350 rfl hM.1 ?_
    rw [hSt.1.1]
    refine r_icmp_ge (tgt := 64) dX10_ringOf_30 (by decide) (fun _ => ?_) (fun hz => absurd (show _ from (by rw [nI_leI (by omega) (by omega)]; omega)) hz)
    exact hE
  | c + 1, k, hc => by
    have hH8 := oS.2.1
    by_cases q : co.testBit k = true
    · skip
      refine r_iload dX10_ringOf_24 rfl ?_
      refine r_aload_n dX10_ringOf_26 rfl ?_
      refine r_getI dX10_ringOf_27 fl_X10_350 rfl hM.1 ?_
      rw [hSt.1.1]
      refine r_icmp_ge (tgt := 64) dX10_ringOf_30 (by decide) (fun hz => absurd hz (show ¬ _ from (by rw [nI_leI (by omega) (by omega)]; omega))) (fun _ => ?_)
      refine r_iload dX10_ringOf_33 rfl ?_
      refine r_iload_n dX10_ringOf_35 rfl ?_
      refine r_iload dX10_ringOf_36 rfl ?_
      refine r_ishr dX10_ringOf_38 ?_
      refine r_iconst (v := nI 1) dX10_ringOf_39 (by decide) ?_
      refine r_iand dX10_ringOf_40 ?_
      rw [b_ask _ (by omega), bt_nI _ (by omega)]
      rw [if_pos q]
      refine r_iconst (v := nI 1) dX10_ringOf_41 (by decide) ?_
      refine r_icmp_ne (tgt := 54) dX10_ringOf_42 (by decide) (fun hz => absurd (show _ from rfl) hz) (fun _ => ?_)
      refine r_aload_n dX10_ringOf_45 rfl ?_
      refine r_iload dX10_ringOf_46 rfl ?_
      refine r_virtE (c_X10_leans (e := e) m k hM hSt hLf oS (by omega)) lk_X10_496 mc_X10_leans dX10_ringOf_48 hM.1 (by decide) rfl rfl (Nat.le_of_ble_eq_true rfl) ?_
      refine r_goto (tgt := 55) dX10_ringOf_51 (by decide) ?_
      refine r_ior dX10_ringOf_55 ?_
      rw [or_nI]
      refine r_istore dX10_ringOf_56 (by decide) ?_
      refine r_iinc (v := nI (k + 1)) dX10_ringOf_58 rfl (nI_inc k) ?_
      refine r_goto (tgt := 24) dX10_ringOf_61 (by decide) ?_
      have hx := w_ringr1 m h co al n9 (n := n) (J := J) hM hSt hLf oS hE c (k + 1) (by omega)
      rw [show suN (lnN H cs e) co (k + 1) = suN (lnN H cs e) co k ||| lnN H cs e k from if_pos q] at hx
      exact hx
    · skip
      refine r_iload dX10_ringOf_24 rfl ?_
      refine r_aload_n dX10_ringOf_26 rfl ?_
      refine r_getI dX10_ringOf_27 fl_X10_350 rfl hM.1 ?_
      rw [hSt.1.1]
      refine r_icmp_ge (tgt := 64) dX10_ringOf_30 (by decide) (fun hz => absurd hz (show ¬ _ from (by rw [nI_leI (by omega) (by omega)]; omega))) (fun _ => ?_)
      refine r_iload dX10_ringOf_33 rfl ?_
      refine r_iload_n dX10_ringOf_35 rfl ?_
      refine r_iload dX10_ringOf_36 rfl ?_
      refine r_ishr dX10_ringOf_38 ?_
      refine r_iconst (v := nI 1) dX10_ringOf_39 (by decide) ?_
      refine r_iand dX10_ringOf_40 ?_
      rw [b_ask _ (by omega), bt_nI _ (by omega)]
      rw [if_neg q]
      refine r_iconst (v := nI 1) dX10_ringOf_41 (by decide) ?_
      refine r_icmp_ne (tgt := 54) dX10_ringOf_42 (by decide) (fun _ => ?_) (fun hz => absurd hz (show ¬ _ from (by decide)))
      refine r_iconst (v := nI 0) dX10_ringOf_54 (by decide) ?_
      refine r_ior dX10_ringOf_55 ?_
      rw [show nI (suN (lnN H cs e) co k) ||| nI 0 = nI (suN (lnN H cs e) co k) from by rw [or_nI, Nat.or_zero]]
      refine r_istore dX10_ringOf_56 (by decide) ?_
      refine r_iinc (v := nI (k + 1)) dX10_ringOf_58 rfl (nI_inc k) ?_
      refine r_goto (tgt := 24) dX10_ringOf_61 (by decide) ?_
      have hx := w_ringr1 m h co al n9 (n := n) (J := J) hM hSt hLf oS hE c (k + 1) (by omega)
      rw [show suN (lnN H cs e) co (k + 1) = suN (lnN H cs e) co k from if_neg q] at hx
      exact hx

set_option maxHeartbeats 4000000 in
set_option maxRecDepth 100000 in
theorem w_ringr2 (m h : Nat) {H M : Nat} {un : Bool} {cs : Nat → List Nat} {tx : Nat → List Int32} {e : Lf} {n : Nat} {kd : mK} {I : mI} {J : mJ} {P : mP} (hM : kM kd P m) (hSt : rS I m H M un cs tx) (hLf : rL I m H e) (oS : okS H M cs) (hh : h < H) : ∀ (c n9 co al : Nat) (z5 z6 : Option Value), n9 + c = H + 1 → Ru yX10_ringOf.cls cX10_ringOf 7 (some .int) yX10_ringOf.name 9 (am_is (some (.int (rgR (lnN H cs e) H h c n9 co al))) n kd I J P) 0 0 9 [some (.ref m), some (.int (nI h)), some (.int (nI co)), some (.int (nI al)), some (.int (nI n9)), z5, z6] [] n kd I J P
  | 0, n9, co, al, z5, z6, hc => by
    have hH8 := oS.2.1
    refine r_iload dX10_ringOf_9 rfl ?_
    refine r_aload_n dX10_ringOf_11 rfl ?_
    refine r_getI dX10_ringOf_12 fl_X10_350 rfl hM.1 ?_
    rw [hSt.1.1]
    refine r_icmp_gt (tgt := 95) dX10_ringOf_15 (by decide) (fun _ => ?_) (fun hz => absurd (show _ from (by rw [nI_ltI (by omega) (by omega)]; omega)) hz)
    refine r_iconst (v := (-1)) dX10_ringOf_95 (by decide) ?_
    refine r_iret rfl dX10_ringOf_96 ?_
    exact am_is.mk
  | c + 1, n9, co, al, z5, z6, hc => by
    have hH8 := oS.2.1
    refine r_iload dX10_ringOf_9 rfl ?_
    refine r_aload_n dX10_ringOf_11 rfl ?_
    refine r_getI dX10_ringOf_12 fl_X10_350 rfl hM.1 ?_
    rw [hSt.1.1]
    refine r_icmp_gt (tgt := 95) dX10_ringOf_15 (by decide) (fun hz => absurd hz (show ¬ _ from (by rw [nI_ltI (by omega) (by omega)]; omega))) (fun _ => ?_)
    refine r_iconst (v := nI 0) dX10_ringOf_18 (by decide) ?_
    refine r_istore dX10_ringOf_19 (by decide) ?_
    refine r_iconst (v := nI 0) dX10_ringOf_21 (by decide) ?_
    refine r_istore dX10_ringOf_22 (by decide) ?_
    refine w_ringr1 m h co al n9 hM hSt hLf oS ?_ H 0 (by omega)
    by_cases q : (suN (lnN H cs e) co H).testBit h = true
    · rw [show rgR (lnN H cs e) H h (c + 1) n9 co al = nI n9 from if_pos q]
      refine r_iload dX10_ringOf_64 rfl ?_
      refine r_iload_n dX10_ringOf_66 rfl ?_
      refine r_ishr dX10_ringOf_67 ?_
      refine r_iconst (v := nI 1) dX10_ringOf_68 (by decide) ?_
      refine r_iand dX10_ringOf_69 ?_
      rw [b_ask _ (by omega), bt_nI _ (by omega)]
      rw [if_pos q]
      refine r_iconst (v := nI 1) dX10_ringOf_70 (by decide) ?_
      refine r_icmp_ne (tgt := 77) dX10_ringOf_71 (by decide) (fun hz => absurd (show _ from rfl) hz) (fun _ => ?_)
      refine r_iload dX10_ringOf_74 rfl ?_
      refine r_iret rfl dX10_ringOf_76 ?_
      exact am_is.mk
    · rw [show rgR (lnN H cs e) H h (c + 1) n9 co al = rgR (lnN H cs e) H h c (n9 + 1) (nO (nI (suN (lnN H cs e) co H) &&& (nI al ^^^ (-1)))) (al ||| suN (lnN H cs e) co H) from if_neg q]
      refine r_iload dX10_ringOf_64 rfl ?_
      refine r_iload_n dX10_ringOf_66 rfl ?_
      refine r_ishr dX10_ringOf_67 ?_
      refine r_iconst (v := nI 1) dX10_ringOf_68 (by decide) ?_
      refine r_iand dX10_ringOf_69 ?_
      rw [b_ask _ (by omega), bt_nI _ (by omega)]
      rw [if_neg q]
      refine r_iconst (v := nI 1) dX10_ringOf_70 (by decide) ?_
      refine r_icmp_ne (tgt := 77) dX10_ringOf_71 (by decide) (fun _ => ?_) (fun hz => absurd hz (show ¬ _ from (by decide)))
      refine r_iload dX10_ringOf_77 rfl ?_
      refine r_iload_n dX10_ringOf_79 rfl ?_
      refine r_iconst (v := (-1)) dX10_ringOf_80 (by decide) ?_
      refine r_ixor dX10_ringOf_81 ?_
      refine r_iand dX10_ringOf_82 ?_
      generalize hX9 : nO (nI (suN (lnN H cs e) co H) &&& (nI al ^^^ (-1))) = X9
      rw [show nI (suN (lnN H cs e) co H) &&& (nI al ^^^ (-1)) = nI X9 from by rw [← hX9, nO_eq]]
      refine r_istore_n dX10_ringOf_83 (by decide) ?_
      refine r_iload_n dX10_ringOf_84 rfl ?_
      refine r_iload dX10_ringOf_85 rfl ?_
      refine r_ior dX10_ringOf_87 ?_
      rw [or_nI]
      refine r_istore_n dX10_ringOf_88 (by decide) ?_
      refine r_iinc (v := nI (n9 + 1)) dX10_ringOf_89 rfl (nI_inc n9) ?_
      refine r_goto (tgt := 9) dX10_ringOf_92 (by decide) ?_
      exact w_ringr2 m h hM hSt hLf oS hh c (n9 + 1) X9 (al ||| suN (lnN H cs e) co H) _ _ (by omega)

set_option maxHeartbeats 4000000 in
set_option maxRecDepth 100000 in
theorem c_X10_ringOf (m h : Nat) {H M : Nat} {un : Bool} {cs : Nat → List Nat} {tx : Nat → List Int32} {e : Lf} {n : Nat} {kd : mK} {I : mI} {J : mJ} {P : mP} (hM : kM kd P m) (hSt : rS I m H M un cs tx) (hLf : rL I m H e) (oS : okS H M cs) (hh : h < H) : Ct yX10_ringOf cX10_ringOf 7 (some .int) 9 0 0 [.ref m, .int (nI h)] n kd I J P (am_is (some (.int (rgO H cs e h))) n kd I J P) := by
  have hH8 := oS.2.1
  rw [← rg_ref hH8 hh]
  refine ct_of 5 (by decide +kernel) (Nat.le_of_ble_eq_true rfl) rfl ?_
  refine r_iconst (v := nI 1) dX10_ringOf_0 (by decide) ?_
  refine r_iload_n dX10_ringOf_1 rfl ?_
  refine r_ishl dX10_ringOf_2 ?_
  rw [sh1_nI h (by omega)]
  refine r_istore_n dX10_ringOf_3 (by decide) ?_
  refine r_iconst (v := nI 0) dX10_ringOf_4 (by decide) ?_
  refine r_istore_n dX10_ringOf_5 (by decide) ?_
  refine r_iconst (v := nI 1) dX10_ringOf_6 (by decide) ?_
  refine r_istore dX10_ringOf_7 (by decide) ?_
  exact w_ringr2 m h hM hSt hLf oS hh H 1 (2 ^ h) 0 _ _ (by omega)

theorem dX10_levelOf_0 : decode cX10_levelOf 0 = .ok (.iconst 0, 1) := by decide +kernel
theorem dX10_levelOf_1 : decode cX10_levelOf 1 = .ok (.istore_n 2, 1) := by decide +kernel
theorem dX10_levelOf_2 : decode cX10_levelOf 2 = .ok (.iload_n 2, 1) := by decide +kernel
theorem dX10_levelOf_3 : decode cX10_levelOf 3 = .ok (.aload_n 0, 1) := by decide +kernel
theorem dX10_levelOf_4 : decode cX10_levelOf 4 = .ok (.getfield 350, 3) := by decide +kernel
theorem dX10_levelOf_7 : decode cX10_levelOf 7 = .ok (.if_icmp .ge 16, 3) := by decide +kernel
theorem dX10_levelOf_10 : decode cX10_levelOf 10 = .ok (.aload_n 0, 1) := by decide +kernel
theorem dX10_levelOf_11 : decode cX10_levelOf 11 = .ok (.getfield 142, 3) := by decide +kernel
theorem dX10_levelOf_14 : decode cX10_levelOf 14 = .ok (.iload_n 2, 1) := by decide +kernel
theorem dX10_levelOf_15 : decode cX10_levelOf 15 = .ok (.iconst (-1), 1) := by decide +kernel
theorem dX10_levelOf_16 : decode cX10_levelOf 16 = .ok (.iastore, 1) := by decide +kernel
theorem dX10_levelOf_17 : decode cX10_levelOf 17 = .ok (.iinc 2 1, 3) := by decide +kernel
theorem dX10_levelOf_20 : decode cX10_levelOf 20 = .ok (.goto (-18), 3) := by decide +kernel
theorem dX10_levelOf_23 : decode cX10_levelOf 23 = .ok (.iconst 0, 1) := by decide +kernel
theorem dX10_levelOf_24 : decode cX10_levelOf 24 = .ok (.istore_n 2, 1) := by decide +kernel
theorem dX10_levelOf_25 : decode cX10_levelOf 25 = .ok (.iload_n 2, 1) := by decide +kernel
theorem dX10_levelOf_26 : decode cX10_levelOf 26 = .ok (.aload_n 0, 1) := by decide +kernel
theorem dX10_levelOf_27 : decode cX10_levelOf 27 = .ok (.getfield 350, 3) := by decide +kernel
theorem dX10_levelOf_30 : decode cX10_levelOf 30 = .ok (.if_icmp .ge 119, 3) := by decide +kernel
theorem dX10_levelOf_33 : decode cX10_levelOf 33 = .ok (.iconst 0, 1) := by decide +kernel
theorem dX10_levelOf_34 : decode cX10_levelOf 34 = .ok (.istore_n 3, 1) := by decide +kernel
theorem dX10_levelOf_35 : decode cX10_levelOf 35 = .ok (.iload_n 3, 1) := by decide +kernel
theorem dX10_levelOf_36 : decode cX10_levelOf 36 = .ok (.aload_n 0, 1) := by decide +kernel
theorem dX10_levelOf_37 : decode cX10_levelOf 37 = .ok (.getfield 350, 3) := by decide +kernel
theorem dX10_levelOf_40 : decode cX10_levelOf 40 = .ok (.if_icmp .ge 103, 3) := by decide +kernel
theorem dX10_levelOf_43 : decode cX10_levelOf 43 = .ok (.iconst 0, 1) := by decide +kernel
theorem dX10_levelOf_44 : decode cX10_levelOf 44 = .ok (.istore 4, 2) := by decide +kernel
theorem dX10_levelOf_46 : decode cX10_levelOf 46 = .ok (.iconst 0, 1) := by decide +kernel
theorem dX10_levelOf_47 : decode cX10_levelOf 47 = .ok (.istore 5, 2) := by decide +kernel
theorem dX10_levelOf_49 : decode cX10_levelOf 49 = .ok (.iload 5, 2) := by decide +kernel
theorem dX10_levelOf_51 : decode cX10_levelOf 51 = .ok (.aload_n 0, 1) := by decide +kernel
theorem dX10_levelOf_52 : decode cX10_levelOf 52 = .ok (.getfield 350, 3) := by decide +kernel
theorem dX10_levelOf_55 : decode cX10_levelOf 55 = .ok (.if_icmp .ge 74, 3) := by decide +kernel
theorem dX10_levelOf_58 : decode cX10_levelOf 58 = .ok (.iload 4, 2) := by decide +kernel
theorem dX10_levelOf_60 : decode cX10_levelOf 60 = .ok (.iconst (-1), 1) := by decide +kernel
theorem dX10_levelOf_61 : decode cX10_levelOf 61 = .ok (.if_icmp .eq 68, 3) := by decide +kernel
theorem dX10_levelOf_64 : decode cX10_levelOf 64 = .ok (.aload_n 0, 1) := by decide +kernel
theorem dX10_levelOf_65 : decode cX10_levelOf 65 = .ok (.iload_n 3, 1) := by decide +kernel
theorem dX10_levelOf_66 : decode cX10_levelOf 66 = .ok (.invokevirtual 496, 3) := by decide +kernel
theorem dX10_levelOf_69 : decode cX10_levelOf 69 = .ok (.iload 5, 2) := by decide +kernel
theorem dX10_levelOf_71 : decode cX10_levelOf 71 = .ok (.ishr, 1) := by decide +kernel
theorem dX10_levelOf_72 : decode cX10_levelOf 72 = .ok (.iconst 1, 1) := by decide +kernel
theorem dX10_levelOf_73 : decode cX10_levelOf 73 = .ok (.iand, 1) := by decide +kernel
theorem dX10_levelOf_74 : decode cX10_levelOf 74 = .ok (.ifCond .ne 6, 3) := by decide +kernel
theorem dX10_levelOf_77 : decode cX10_levelOf 77 = .ok (.goto 46, 3) := by decide +kernel
theorem dX10_levelOf_80 : decode cX10_levelOf 80 = .ok (.aload_n 0, 1) := by decide +kernel
theorem dX10_levelOf_81 : decode cX10_levelOf 81 = .ok (.getfield 142, 3) := by decide +kernel
theorem dX10_levelOf_84 : decode cX10_levelOf 84 = .ok (.iload 5, 2) := by decide +kernel
theorem dX10_levelOf_86 : decode cX10_levelOf 86 = .ok (.iaload, 1) := by decide +kernel
theorem dX10_levelOf_87 : decode cX10_levelOf 87 = .ok (.iconst (-1), 1) := by decide +kernel
theorem dX10_levelOf_88 : decode cX10_levelOf 88 = .ok (.if_icmp .ne 7, 3) := by decide +kernel
theorem dX10_levelOf_91 : decode cX10_levelOf 91 = .ok (.iconst (-1), 1) := by decide +kernel
theorem dX10_levelOf_92 : decode cX10_levelOf 92 = .ok (.goto 29, 3) := by decide +kernel
theorem dX10_levelOf_95 : decode cX10_levelOf 95 = .ok (.aload_n 0, 1) := by decide +kernel
theorem dX10_levelOf_96 : decode cX10_levelOf 96 = .ok (.getfield 142, 3) := by decide +kernel
theorem dX10_levelOf_99 : decode cX10_levelOf 99 = .ok (.iload 5, 2) := by decide +kernel
theorem dX10_levelOf_101 : decode cX10_levelOf 101 = .ok (.iaload, 1) := by decide +kernel
theorem dX10_levelOf_102 : decode cX10_levelOf 102 = .ok (.iload 4, 2) := by decide +kernel
theorem dX10_levelOf_104 : decode cX10_levelOf 104 = .ok (.if_icmp .lt 15, 3) := by decide +kernel
theorem dX10_levelOf_107 : decode cX10_levelOf 107 = .ok (.aload_n 0, 1) := by decide +kernel
theorem dX10_levelOf_108 : decode cX10_levelOf 108 = .ok (.getfield 142, 3) := by decide +kernel
theorem dX10_levelOf_111 : decode cX10_levelOf 111 = .ok (.iload 5, 2) := by decide +kernel
theorem dX10_levelOf_113 : decode cX10_levelOf 113 = .ok (.iaload, 1) := by decide +kernel
theorem dX10_levelOf_114 : decode cX10_levelOf 114 = .ok (.iconst 1, 1) := by decide +kernel
theorem dX10_levelOf_115 : decode cX10_levelOf 115 = .ok (.iadd, 1) := by decide +kernel
theorem dX10_levelOf_116 : decode cX10_levelOf 116 = .ok (.goto 5, 3) := by decide +kernel
theorem dX10_levelOf_119 : decode cX10_levelOf 119 = .ok (.iload 4, 2) := by decide +kernel
theorem dX10_levelOf_121 : decode cX10_levelOf 121 = .ok (.istore 4, 2) := by decide +kernel
theorem dX10_levelOf_123 : decode cX10_levelOf 123 = .ok (.iinc 5 1, 3) := by decide +kernel
theorem dX10_levelOf_126 : decode cX10_levelOf 126 = .ok (.goto (-77), 3) := by decide +kernel
theorem dX10_levelOf_129 : decode cX10_levelOf 129 = .ok (.aload_n 0, 1) := by decide +kernel
theorem dX10_levelOf_130 : decode cX10_levelOf 130 = .ok (.getfield 142, 3) := by decide +kernel
theorem dX10_levelOf_133 : decode cX10_levelOf 133 = .ok (.iload_n 3, 1) := by decide +kernel
theorem dX10_levelOf_134 : decode cX10_levelOf 134 = .ok (.iload 4, 2) := by decide +kernel
theorem dX10_levelOf_136 : decode cX10_levelOf 136 = .ok (.iastore, 1) := by decide +kernel
theorem dX10_levelOf_137 : decode cX10_levelOf 137 = .ok (.iinc 3 1, 3) := by decide +kernel
theorem dX10_levelOf_140 : decode cX10_levelOf 140 = .ok (.goto (-105), 3) := by decide +kernel
theorem dX10_levelOf_143 : decode cX10_levelOf 143 = .ok (.iinc 2 1, 3) := by decide +kernel
theorem dX10_levelOf_146 : decode cX10_levelOf 146 = .ok (.goto (-121), 3) := by decide +kernel
theorem dX10_levelOf_149 : decode cX10_levelOf 149 = .ok (.aload_n 0, 1) := by decide +kernel
theorem dX10_levelOf_150 : decode cX10_levelOf 150 = .ok (.getfield 142, 3) := by decide +kernel
theorem dX10_levelOf_153 : decode cX10_levelOf 153 = .ok (.iload_n 1, 1) := by decide +kernel
theorem dX10_levelOf_154 : decode cX10_levelOf 154 = .ok (.iaload, 1) := by decide +kernel
theorem dX10_levelOf_155 : decode cX10_levelOf 155 = .ok (.ireturn, 1) := by decide +kernel

set_option maxHeartbeats 4000000 in
set_option maxRecDepth 100000 in
theorem w_lvr0 (m h : Nat) (z3 z4 z5 : Option Value) {H M : Nat} {un : Bool} {cs : Nat → List Nat} {tx : Nat → List Int32} {e : Lf} {n : Nat} {kd : mK} {I : mI} {J : mJ} {P : mP} {post : am_Post} (hM : kM kd P m) (hSt : rS I m H M un cs tx) (hLf : rL I m H e) (oS : okS H M cs) (hE : (∀ R : Nat → Int32, (∀ j, j < H → R j = -1) → Ru yX10_levelOf.cls cX10_levelOf 6 (some .int) yX10_levelOf.name 9 (post) 0 0 23 [some (.ref m), some (.int (nI h)), some (.int (nI H)), z3, z4, z5] [] n kd (va_up I (m + 39) R) J P)) : ∀ (c k : Nat) (R : Nat → Int32), k + c = H → (∀ j, j < k → R j = -1) → Ru yX10_levelOf.cls cX10_levelOf 6 (some .int) yX10_levelOf.name 9 (post) 0 0 2 [some (.ref m), some (.int (nI h)), some (.int (nI k)), z3, z4, z5] [] n kd (va_up I (m + 39) R) J P
  | 0, k, R, hc, hR => by
    have hH8 := oS.2.1
    rw [show k = H by omega] at hR ⊢
    refine r_iload_n dX10_levelOf_2 rfl ?_
    refine r_aload_n dX10_levelOf_3 rfl ?_
    refine r_getI dX10_levelOf_4 fl_X10_350 rfl hM.1 ?_
    rw [am_up_n _ _ (show m ≠ m + 39 by omega), hSt.1.1]
    refine r_icmp_ge (tgt := 23) dX10_levelOf_7 (by decide) (fun _ => ?_) (fun hz => absurd (show _ from (by rw [nI_leI (by omega) (by omega)]; omega)) hz)
    exact hE R hR
  | c + 1, k, R, hc, hR => by
    have hH8 := oS.2.1
    refine r_iload_n dX10_levelOf_2 rfl ?_
    refine r_aload_n dX10_levelOf_3 rfl ?_
    refine r_getI dX10_levelOf_4 fl_X10_350 rfl hM.1 ?_
    rw [am_up_n _ _ (show m ≠ m + 39 by omega), hSt.1.1]
    refine r_icmp_ge (tgt := 23) dX10_levelOf_7 (by decide) (fun hz => absurd hz (show ¬ _ from (by rw [nI_leI (by omega) (by omega)]; omega))) (fun _ => ?_)
    refine r_aload_n dX10_levelOf_10 rfl ?_
    refine r_getR dX10_levelOf_11 fl_X10_142 rfl (kM_0 hM) (pM_75 hM) ?_
    refine r_iload_n dX10_levelOf_14 rfl ?_
    refine r_iconst (v := (-1)) dX10_levelOf_15 (by decide) ?_
    refine r_iast dX10_levelOf_16 (aM_75 hM) (nI_in8 8 (by omega) (by decide)) (nI_clamp (by omega)) ?_
    rw [am_up_s, am_up_up]
    refine r_iinc (v := nI (k + 1)) dX10_levelOf_17 rfl (nI_inc k) ?_
    refine r_goto (tgt := 2) dX10_levelOf_20 (by decide) ?_
    refine w_lvr0 m h z3 z4 z5 hM hSt hLf oS hE c (k + 1) _ (by omega) (fun j hj => ?_)
    by_cases q : j = k
    · rw [q, am_up_s]
    · rw [am_up_n _ _ q]; exact hR j (by omega)

set_option maxHeartbeats 4000000 in
set_option maxRecDepth 100000 in
theorem w_lvr1 (m h n9 k : Nat) (L : Nat → Nat) (R : Nat → Int32) (val : Nat) {H M : Nat} {un : Bool} {cs : Nat → List Nat} {tx : Nat → List Int32} {e : Lf} {n : Nat} {kd : mK} {I : mI} {J : mJ} {P : mP} {post : am_Post} (hM : kM kd P m) (hSt : rS I m H M un cs tx) (hLf : rL I m H e) (oS : okS H M cs) (hk : k < H) (hR : ∀ j, j < H → R j = lvI (L j)) (hB : ∀ j, L j < 2 ^ 30) (hE : (∀ z5 : Option Value, Ru yX10_levelOf.cls cX10_levelOf 6 (some .int) yX10_levelOf.name 9 (post) 0 0 129 [some (.ref m), some (.int (nI h)), some (.int (nI n9)), some (.int (nI k)), some (.int (lvI val)), z5] [] n kd (va_up I (m + 39) R) J P)) : ∀ (c j v : Nat), j + c = H → v < 2 ^ 30 → lvB L (lnN H cs e k) c j v = val → Ru yX10_levelOf.cls cX10_levelOf 6 (some .int) yX10_levelOf.name 9 (post) 0 0 49 [some (.ref m), some (.int (nI h)), some (.int (nI n9)), some (.int (nI k)), some (.int (nI v)), some (.int (nI j))] [] n kd (va_up I (m + 39) R) J P
  | 0, j, v, hc, hv0, hv => by
    have hH8 := oS.2.1
    have hx := hE (some (.int (nI j)))
    rw [← hv, show lvI (lvB L (lnN H cs e k) 0 j v) = nI v from by show lvI (v + 1) = _; unfold lvI; rw [if_neg (by omega), Nat.add_sub_cancel]] at hx
    refine r_iload dX10_levelOf_49 rfl ?_
    refine r_aload_n dX10_levelOf_51 rfl ?_
    refine r_getI dX10_levelOf_52 fl_X10_350 rfl hM.1 ?_
    rw [am_up_n _ _ (show m ≠ m + 39 by omega), hSt.1.1]
    refine r_icmp_ge (tgt := 129) dX10_levelOf_55 (by decide) (fun _ => ?_) (fun hz => absurd (show _ from (by rw [nI_leI (by omega) (by omega)]; omega)) hz)
    exact hx
  | c + 1, j, v, hc, hv0, hv => by
    have hH8 := oS.2.1
    have hBj := hB j
    by_cases q : (lnN H cs e k).testBit j = true
    · by_cases q2 : L j = 0
      · have hs : lvB L (lnN H cs e k) (c + 1) j v = 0 := by show (if (lnN H cs e k).testBit j = true then (if L j = 0 then 0 else _) else _) = _; rw [if_pos q, if_pos q2]
        rw [hs] at hv
        by_cases hjl : j + 1 < H
        · skip
          refine r_iload dX10_levelOf_49 rfl ?_
          refine r_aload_n dX10_levelOf_51 rfl ?_
          refine r_getI dX10_levelOf_52 fl_X10_350 rfl hM.1 ?_
          rw [am_up_n _ _ (show m ≠ m + 39 by omega), hSt.1.1]
          refine r_icmp_ge (tgt := 129) dX10_levelOf_55 (by decide) (fun hz => absurd hz (show ¬ _ from (by rw [nI_leI (by omega) (by omega)]; omega))) (fun _ => ?_)
          refine r_iload dX10_levelOf_58 rfl ?_
          refine r_iconst (v := (-1)) dX10_levelOf_60 (by decide) ?_
          refine r_icmp_eq (tgt := 129) dX10_levelOf_61 (by decide) (fun hz => absurd hz (show ¬ _ from (nI_m1 (by omega)))) (fun _ => ?_)
          refine r_aload_n dX10_levelOf_64 rfl ?_
          refine r_iload_n dX10_levelOf_65 rfl ?_
          refine r_virtE (c_X10_leans (e := e) m k hM (hSt.cg (I' := va_up I (m + 39) R) (fun j _ => by rw [am_up_n _ _ (show m ≠ m + 39 by omega)]) (fun a a1 => am_up_n _ _ (by omega))) (rLx.cg (So' := va_up I (m + 39) R (m + 1)) (De' := va_up I (m + 39) R (m + 2)) (Mu' := va_up I (m + 39) R (m + 4)) (Ac' := va_up I (m + 39) R (m + 23)) (Le' := va_up I (m + 39) R (m + 24)) (na' := va_up I (m + 39) R m 45) (nl' := va_up I (m + 39) R m 47) (am_up_n _ _ (by omega)) (am_up_n _ _ (by omega)) (am_up_n _ _ (by omega)) (am_up_n _ _ (by omega)) (am_up_n _ _ (by omega)) (by rw [am_up_n _ _ (show m ≠ m + 39 by omega)]) (by rw [am_up_n _ _ (show m ≠ m + 39 by omega)]) hLf) oS hk) lk_X10_496 mc_X10_leans dX10_levelOf_66 hM.1 (by decide) rfl rfl (Nat.le_of_ble_eq_true rfl) ?_
          refine r_iload dX10_levelOf_69 rfl ?_
          refine r_ishr dX10_levelOf_71 ?_
          refine r_iconst (v := nI 1) dX10_levelOf_72 (by decide) ?_
          refine r_iand dX10_levelOf_73 ?_
          rw [b_ask _ (by omega), bt_nI _ (by omega)]
          rw [if_pos q]
          refine r_if_ne (tgt := 80) dX10_levelOf_74 (by decide) (fun _ => ?_) (fun hz => absurd hz (show ¬ _ from (by decide)))
          refine r_aload_n dX10_levelOf_80 rfl ?_
          refine r_getR dX10_levelOf_81 fl_X10_142 rfl (kM_0 hM) (pM_75 hM) ?_
          refine r_iload dX10_levelOf_84 rfl ?_
          refine r_iald dX10_levelOf_86 (aM_75 hM) (nI_in8 8 (by omega) (by decide)) (nI_clamp (by omega)) ?_
          rw [am_up_s, hR j (by omega)]
          refine r_iconst (v := (-1)) dX10_levelOf_87 (by decide) ?_
          refine r_icmp_ne (tgt := 95) dX10_levelOf_88 (by decide) (fun hz => absurd (show _ from (by rw [q2]; rfl)) hz) (fun _ => ?_)
          refine r_iconst (v := (-1)) dX10_levelOf_91 (by decide) ?_
          refine r_goto (tgt := 121) dX10_levelOf_92 (by decide) ?_
          refine r_istore dX10_levelOf_121 (by decide) ?_
          refine r_iinc (v := nI (j + 1)) dX10_levelOf_123 rfl (nI_inc j) ?_
          refine r_goto (tgt := 49) dX10_levelOf_126 (by decide) ?_
          refine r_iload dX10_levelOf_49 rfl ?_
          refine r_aload_n dX10_levelOf_51 rfl ?_
          refine r_getI dX10_levelOf_52 fl_X10_350 rfl hM.1 ?_
          rw [am_up_n _ _ (show m ≠ m + 39 by omega), hSt.1.1]
          refine r_icmp_ge (tgt := 129) dX10_levelOf_55 (by decide) (fun hz => absurd hz (show ¬ _ from (by rw [nI_leI (by omega) (by omega)]; omega))) (fun _ => ?_)
          refine r_iload dX10_levelOf_58 rfl ?_
          refine r_iconst (v := (-1)) dX10_levelOf_60 (by decide) ?_
          refine r_icmp_eq (tgt := 129) dX10_levelOf_61 (by decide) (fun _ => ?_) (fun hz => absurd (show _ from rfl) hz)
          have hx := hE (some (.int (nI (j + 1))))
          rw [← hv] at hx
          exact hx
        · skip
          refine r_iload dX10_levelOf_49 rfl ?_
          refine r_aload_n dX10_levelOf_51 rfl ?_
          refine r_getI dX10_levelOf_52 fl_X10_350 rfl hM.1 ?_
          rw [am_up_n _ _ (show m ≠ m + 39 by omega), hSt.1.1]
          refine r_icmp_ge (tgt := 129) dX10_levelOf_55 (by decide) (fun hz => absurd hz (show ¬ _ from (by rw [nI_leI (by omega) (by omega)]; omega))) (fun _ => ?_)
          refine r_iload dX10_levelOf_58 rfl ?_
          refine r_iconst (v := (-1)) dX10_levelOf_60 (by decide) ?_
          refine r_icmp_eq (tgt := 129) dX10_levelOf_61 (by decide) (fun hz => absurd hz (show ¬ _ from (nI_m1 (by omega)))) (fun _ => ?_)
          refine r_aload_n dX10_levelOf_64 rfl ?_
          refine r_iload_n dX10_levelOf_65 rfl ?_
          refine r_virtE (c_X10_leans (e := e) m k hM (hSt.cg (I' := va_up I (m + 39) R) (fun j _ => by rw [am_up_n _ _ (show m ≠ m + 39 by omega)]) (fun a a1 => am_up_n _ _ (by omega))) (rLx.cg (So' := va_up I (m + 39) R (m + 1)) (De' := va_up I (m + 39) R (m + 2)) (Mu' := va_up I (m + 39) R (m + 4)) (Ac' := va_up I (m + 39) R (m + 23)) (Le' := va_up I (m + 39) R (m + 24)) (na' := va_up I (m + 39) R m 45) (nl' := va_up I (m + 39) R m 47) (am_up_n _ _ (by omega)) (am_up_n _ _ (by omega)) (am_up_n _ _ (by omega)) (am_up_n _ _ (by omega)) (am_up_n _ _ (by omega)) (by rw [am_up_n _ _ (show m ≠ m + 39 by omega)]) (by rw [am_up_n _ _ (show m ≠ m + 39 by omega)]) hLf) oS hk) lk_X10_496 mc_X10_leans dX10_levelOf_66 hM.1 (by decide) rfl rfl (Nat.le_of_ble_eq_true rfl) ?_
          refine r_iload dX10_levelOf_69 rfl ?_
          refine r_ishr dX10_levelOf_71 ?_
          refine r_iconst (v := nI 1) dX10_levelOf_72 (by decide) ?_
          refine r_iand dX10_levelOf_73 ?_
          rw [b_ask _ (by omega), bt_nI _ (by omega)]
          rw [if_pos q]
          refine r_if_ne (tgt := 80) dX10_levelOf_74 (by decide) (fun _ => ?_) (fun hz => absurd hz (show ¬ _ from (by decide)))
          refine r_aload_n dX10_levelOf_80 rfl ?_
          refine r_getR dX10_levelOf_81 fl_X10_142 rfl (kM_0 hM) (pM_75 hM) ?_
          refine r_iload dX10_levelOf_84 rfl ?_
          refine r_iald dX10_levelOf_86 (aM_75 hM) (nI_in8 8 (by omega) (by decide)) (nI_clamp (by omega)) ?_
          rw [am_up_s, hR j (by omega)]
          refine r_iconst (v := (-1)) dX10_levelOf_87 (by decide) ?_
          refine r_icmp_ne (tgt := 95) dX10_levelOf_88 (by decide) (fun hz => absurd (show _ from (by rw [q2]; rfl)) hz) (fun _ => ?_)
          refine r_iconst (v := (-1)) dX10_levelOf_91 (by decide) ?_
          refine r_goto (tgt := 121) dX10_levelOf_92 (by decide) ?_
          refine r_istore dX10_levelOf_121 (by decide) ?_
          refine r_iinc (v := nI (j + 1)) dX10_levelOf_123 rfl (nI_inc j) ?_
          refine r_goto (tgt := 49) dX10_levelOf_126 (by decide) ?_
          refine r_iload dX10_levelOf_49 rfl ?_
          refine r_aload_n dX10_levelOf_51 rfl ?_
          refine r_getI dX10_levelOf_52 fl_X10_350 rfl hM.1 ?_
          rw [am_up_n _ _ (show m ≠ m + 39 by omega), hSt.1.1]
          refine r_icmp_ge (tgt := 129) dX10_levelOf_55 (by decide) (fun _ => ?_) (fun hz => absurd (show _ from (by rw [nI_leI (by omega) (by omega)]; omega)) hz)
          have hx := hE (some (.int (nI (j + 1))))
          rw [← hv] at hx
          exact hx
      · have hs : lvB L (lnN H cs e k) (c + 1) j v = lvB L (lnN H cs e k) c (j + 1) (max v (L j)) := by show (if (lnN H cs e k).testBit j = true then (if L j = 0 then 0 else _) else _) = _; rw [if_pos q, if_neg q2]
        by_cases q3 : v ≤ L j - 1
        · skip
          refine r_iload dX10_levelOf_49 rfl ?_
          refine r_aload_n dX10_levelOf_51 rfl ?_
          refine r_getI dX10_levelOf_52 fl_X10_350 rfl hM.1 ?_
          rw [am_up_n _ _ (show m ≠ m + 39 by omega), hSt.1.1]
          refine r_icmp_ge (tgt := 129) dX10_levelOf_55 (by decide) (fun hz => absurd hz (show ¬ _ from (by rw [nI_leI (by omega) (by omega)]; omega))) (fun _ => ?_)
          refine r_iload dX10_levelOf_58 rfl ?_
          refine r_iconst (v := (-1)) dX10_levelOf_60 (by decide) ?_
          refine r_icmp_eq (tgt := 129) dX10_levelOf_61 (by decide) (fun hz => absurd hz (show ¬ _ from (nI_m1 (by omega)))) (fun _ => ?_)
          refine r_aload_n dX10_levelOf_64 rfl ?_
          refine r_iload_n dX10_levelOf_65 rfl ?_
          refine r_virtE (c_X10_leans (e := e) m k hM (hSt.cg (I' := va_up I (m + 39) R) (fun j _ => by rw [am_up_n _ _ (show m ≠ m + 39 by omega)]) (fun a a1 => am_up_n _ _ (by omega))) (rLx.cg (So' := va_up I (m + 39) R (m + 1)) (De' := va_up I (m + 39) R (m + 2)) (Mu' := va_up I (m + 39) R (m + 4)) (Ac' := va_up I (m + 39) R (m + 23)) (Le' := va_up I (m + 39) R (m + 24)) (na' := va_up I (m + 39) R m 45) (nl' := va_up I (m + 39) R m 47) (am_up_n _ _ (by omega)) (am_up_n _ _ (by omega)) (am_up_n _ _ (by omega)) (am_up_n _ _ (by omega)) (am_up_n _ _ (by omega)) (by rw [am_up_n _ _ (show m ≠ m + 39 by omega)]) (by rw [am_up_n _ _ (show m ≠ m + 39 by omega)]) hLf) oS hk) lk_X10_496 mc_X10_leans dX10_levelOf_66 hM.1 (by decide) rfl rfl (Nat.le_of_ble_eq_true rfl) ?_
          refine r_iload dX10_levelOf_69 rfl ?_
          refine r_ishr dX10_levelOf_71 ?_
          refine r_iconst (v := nI 1) dX10_levelOf_72 (by decide) ?_
          refine r_iand dX10_levelOf_73 ?_
          rw [b_ask _ (by omega), bt_nI _ (by omega)]
          rw [if_pos q]
          refine r_if_ne (tgt := 80) dX10_levelOf_74 (by decide) (fun _ => ?_) (fun hz => absurd hz (show ¬ _ from (by decide)))
          refine r_aload_n dX10_levelOf_80 rfl ?_
          refine r_getR dX10_levelOf_81 fl_X10_142 rfl (kM_0 hM) (pM_75 hM) ?_
          refine r_iload dX10_levelOf_84 rfl ?_
          refine r_iald dX10_levelOf_86 (aM_75 hM) (nI_in8 8 (by omega) (by decide)) (nI_clamp (by omega)) ?_
          rw [am_up_s, hR j (by omega)]
          refine r_iconst (v := (-1)) dX10_levelOf_87 (by decide) ?_
          refine r_icmp_ne (tgt := 95) dX10_levelOf_88 (by decide) (fun _ => ?_) (fun hz => absurd hz (show ¬ _ from (fun z => q2 ((lvI_eq (by omega)).mp z))))
          refine r_aload_n dX10_levelOf_95 rfl ?_
          refine r_getR dX10_levelOf_96 fl_X10_142 rfl (kM_0 hM) (pM_75 hM) ?_
          refine r_iload dX10_levelOf_99 rfl ?_
          refine r_iald dX10_levelOf_101 (aM_75 hM) (nI_in8 8 (by omega) (by decide)) (nI_clamp (by omega)) ?_
          rw [am_up_s, hR j (by omega)]
          refine r_iload dX10_levelOf_102 rfl ?_
          refine r_icmp_lt (tgt := 119) dX10_levelOf_104 (by decide) (fun hz => absurd hz (show ¬ _ from (by rw [show lvI (L j) = nI (L j - 1) from by unfold lvI; rw [if_neg q2]]; rw [nI_ltI (by omega) (by omega)]; omega))) (fun _ => ?_)
          refine r_aload_n dX10_levelOf_107 rfl ?_
          refine r_getR dX10_levelOf_108 fl_X10_142 rfl (kM_0 hM) (pM_75 hM) ?_
          refine r_iload dX10_levelOf_111 rfl ?_
          refine r_iald dX10_levelOf_113 (aM_75 hM) (nI_in8 8 (by omega) (by decide)) (nI_clamp (by omega)) ?_
          rw [am_up_s, hR j (by omega)]
          refine r_iconst (v := nI 1) dX10_levelOf_114 (by decide) ?_
          refine r_iadd dX10_levelOf_115 ?_
          rw [show lvI (L j) + nI 1 = nI (max v (L j)) from by unfold lvI; rw [if_neg q2, nI_add, show L j - 1 + 1 = max v (L j) by omega]]
          refine r_goto (tgt := 121) dX10_levelOf_116 (by decide) ?_
          refine r_istore dX10_levelOf_121 (by decide) ?_
          refine r_iinc (v := nI (j + 1)) dX10_levelOf_123 rfl (nI_inc j) ?_
          refine r_goto (tgt := 49) dX10_levelOf_126 (by decide) ?_
          rw [hs] at hv
          exact w_lvr1 m h n9 k L R val hM hSt hLf oS hk hR hB hE c (j + 1) (max v (L j)) (by omega) (by omega) hv
        · skip
          refine r_iload dX10_levelOf_49 rfl ?_
          refine r_aload_n dX10_levelOf_51 rfl ?_
          refine r_getI dX10_levelOf_52 fl_X10_350 rfl hM.1 ?_
          rw [am_up_n _ _ (show m ≠ m + 39 by omega), hSt.1.1]
          refine r_icmp_ge (tgt := 129) dX10_levelOf_55 (by decide) (fun hz => absurd hz (show ¬ _ from (by rw [nI_leI (by omega) (by omega)]; omega))) (fun _ => ?_)
          refine r_iload dX10_levelOf_58 rfl ?_
          refine r_iconst (v := (-1)) dX10_levelOf_60 (by decide) ?_
          refine r_icmp_eq (tgt := 129) dX10_levelOf_61 (by decide) (fun hz => absurd hz (show ¬ _ from (nI_m1 (by omega)))) (fun _ => ?_)
          refine r_aload_n dX10_levelOf_64 rfl ?_
          refine r_iload_n dX10_levelOf_65 rfl ?_
          refine r_virtE (c_X10_leans (e := e) m k hM (hSt.cg (I' := va_up I (m + 39) R) (fun j _ => by rw [am_up_n _ _ (show m ≠ m + 39 by omega)]) (fun a a1 => am_up_n _ _ (by omega))) (rLx.cg (So' := va_up I (m + 39) R (m + 1)) (De' := va_up I (m + 39) R (m + 2)) (Mu' := va_up I (m + 39) R (m + 4)) (Ac' := va_up I (m + 39) R (m + 23)) (Le' := va_up I (m + 39) R (m + 24)) (na' := va_up I (m + 39) R m 45) (nl' := va_up I (m + 39) R m 47) (am_up_n _ _ (by omega)) (am_up_n _ _ (by omega)) (am_up_n _ _ (by omega)) (am_up_n _ _ (by omega)) (am_up_n _ _ (by omega)) (by rw [am_up_n _ _ (show m ≠ m + 39 by omega)]) (by rw [am_up_n _ _ (show m ≠ m + 39 by omega)]) hLf) oS hk) lk_X10_496 mc_X10_leans dX10_levelOf_66 hM.1 (by decide) rfl rfl (Nat.le_of_ble_eq_true rfl) ?_
          refine r_iload dX10_levelOf_69 rfl ?_
          refine r_ishr dX10_levelOf_71 ?_
          refine r_iconst (v := nI 1) dX10_levelOf_72 (by decide) ?_
          refine r_iand dX10_levelOf_73 ?_
          rw [b_ask _ (by omega), bt_nI _ (by omega)]
          rw [if_pos q]
          refine r_if_ne (tgt := 80) dX10_levelOf_74 (by decide) (fun _ => ?_) (fun hz => absurd hz (show ¬ _ from (by decide)))
          refine r_aload_n dX10_levelOf_80 rfl ?_
          refine r_getR dX10_levelOf_81 fl_X10_142 rfl (kM_0 hM) (pM_75 hM) ?_
          refine r_iload dX10_levelOf_84 rfl ?_
          refine r_iald dX10_levelOf_86 (aM_75 hM) (nI_in8 8 (by omega) (by decide)) (nI_clamp (by omega)) ?_
          rw [am_up_s, hR j (by omega)]
          refine r_iconst (v := (-1)) dX10_levelOf_87 (by decide) ?_
          refine r_icmp_ne (tgt := 95) dX10_levelOf_88 (by decide) (fun _ => ?_) (fun hz => absurd hz (show ¬ _ from (fun z => q2 ((lvI_eq (by omega)).mp z))))
          refine r_aload_n dX10_levelOf_95 rfl ?_
          refine r_getR dX10_levelOf_96 fl_X10_142 rfl (kM_0 hM) (pM_75 hM) ?_
          refine r_iload dX10_levelOf_99 rfl ?_
          refine r_iald dX10_levelOf_101 (aM_75 hM) (nI_in8 8 (by omega) (by decide)) (nI_clamp (by omega)) ?_
          rw [am_up_s, hR j (by omega)]
          refine r_iload dX10_levelOf_102 rfl ?_
          refine r_icmp_lt (tgt := 119) dX10_levelOf_104 (by decide) (fun _ => ?_) (fun hz => absurd (show _ from (by rw [show lvI (L j) = nI (L j - 1) from by unfold lvI; rw [if_neg q2]]; rw [nI_ltI (by omega) (by omega)]; omega)) hz)
          refine r_iload dX10_levelOf_119 rfl ?_
          refine r_istore dX10_levelOf_121 (by decide) ?_
          refine r_iinc (v := nI (j + 1)) dX10_levelOf_123 rfl (nI_inc j) ?_
          refine r_goto (tgt := 49) dX10_levelOf_126 (by decide) ?_
          rw [hs, show max v (L j) = v by omega] at hv
          exact w_lvr1 m h n9 k L R val hM hSt hLf oS hk hR hB hE c (j + 1) v (by omega) hv0 hv
    · have hs : lvB L (lnN H cs e k) (c + 1) j v = lvB L (lnN H cs e k) c (j + 1) v := if_neg q
      refine r_iload dX10_levelOf_49 rfl ?_
      refine r_aload_n dX10_levelOf_51 rfl ?_
      refine r_getI dX10_levelOf_52 fl_X10_350 rfl hM.1 ?_
      rw [am_up_n _ _ (show m ≠ m + 39 by omega), hSt.1.1]
      refine r_icmp_ge (tgt := 129) dX10_levelOf_55 (by decide) (fun hz => absurd hz (show ¬ _ from (by rw [nI_leI (by omega) (by omega)]; omega))) (fun _ => ?_)
      refine r_iload dX10_levelOf_58 rfl ?_
      refine r_iconst (v := (-1)) dX10_levelOf_60 (by decide) ?_
      refine r_icmp_eq (tgt := 129) dX10_levelOf_61 (by decide) (fun hz => absurd hz (show ¬ _ from (nI_m1 (by omega)))) (fun _ => ?_)
      refine r_aload_n dX10_levelOf_64 rfl ?_
      refine r_iload_n dX10_levelOf_65 rfl ?_
      refine r_virtE (c_X10_leans (e := e) m k hM (hSt.cg (I' := va_up I (m + 39) R) (fun j _ => by rw [am_up_n _ _ (show m ≠ m + 39 by omega)]) (fun a a1 => am_up_n _ _ (by omega))) (rLx.cg (So' := va_up I (m + 39) R (m + 1)) (De' := va_up I (m + 39) R (m + 2)) (Mu' := va_up I (m + 39) R (m + 4)) (Ac' := va_up I (m + 39) R (m + 23)) (Le' := va_up I (m + 39) R (m + 24)) (na' := va_up I (m + 39) R m 45) (nl' := va_up I (m + 39) R m 47) (am_up_n _ _ (by omega)) (am_up_n _ _ (by omega)) (am_up_n _ _ (by omega)) (am_up_n _ _ (by omega)) (am_up_n _ _ (by omega)) (by rw [am_up_n _ _ (show m ≠ m + 39 by omega)]) (by rw [am_up_n _ _ (show m ≠ m + 39 by omega)]) hLf) oS hk) lk_X10_496 mc_X10_leans dX10_levelOf_66 hM.1 (by decide) rfl rfl (Nat.le_of_ble_eq_true rfl) ?_
      refine r_iload dX10_levelOf_69 rfl ?_
      refine r_ishr dX10_levelOf_71 ?_
      refine r_iconst (v := nI 1) dX10_levelOf_72 (by decide) ?_
      refine r_iand dX10_levelOf_73 ?_
      rw [b_ask _ (by omega), bt_nI _ (by omega)]
      rw [if_neg q]
      refine r_if_ne (tgt := 80) dX10_levelOf_74 (by decide) (fun hz => absurd (show _ from rfl) hz) (fun _ => ?_)
      refine r_goto (tgt := 123) dX10_levelOf_77 (by decide) ?_
      refine r_iinc (v := nI (j + 1)) dX10_levelOf_123 rfl (nI_inc j) ?_
      refine r_goto (tgt := 49) dX10_levelOf_126 (by decide) ?_
      rw [hs] at hv
      exact w_lvr1 m h n9 k L R val hM hSt hLf oS hk hR hB hE c (j + 1) v (by omega) hv0 hv

set_option maxHeartbeats 4000000 in
set_option maxRecDepth 100000 in
theorem w_lvr2 (m h n9 : Nat) {H M : Nat} {un : Bool} {cs : Nat → List Nat} {tx : Nat → List Int32} {e : Lf} {n : Nat} {kd : mK} {I : mI} {J : mJ} {P : mP} {post : am_Post} (hM : kM kd P m) (hSt : rS I m H M un cs tx) (hLf : rL I m H e) (oS : okS H M cs) (hn9 : n9 < H) (hE : (∀ (z4 z5 : Option Value) (R : Nat → Int32), (∀ j, j < H → R j = lvI (lvK (lnN H cs e) H (lvN (lnN H cs e) H n9) H j)) → Ru yX10_levelOf.cls cX10_levelOf 6 (some .int) yX10_levelOf.name 9 (post) 0 0 143 [some (.ref m), some (.int (nI h)), some (.int (nI n9)), some (.int (nI H)), z4, z5] [] n kd (va_up I (m + 39) R) J P)) : ∀ (c k : Nat) (z4 z5 : Option Value) (R : Nat → Int32), k + c = H → (∀ j, j < H → R j = lvI (lvK (lnN H cs e) H (lvN (lnN H cs e) H n9) k j)) → Ru yX10_levelOf.cls cX10_levelOf 6 (some .int) yX10_levelOf.name 9 (post) 0 0 35 [some (.ref m), some (.int (nI h)), some (.int (nI n9)), some (.int (nI k)), z4, z5] [] n kd (va_up I (m + 39) R) J P
  | 0, k, z4, z5, R, hc, hR => by
    have hH8 := oS.2.1
    rw [show k = H by omega] at hR ⊢
    refine r_iload_n dX10_levelOf_35 rfl ?_
    refine r_aload_n dX10_levelOf_36 rfl ?_
    refine r_getI dX10_levelOf_37 fl_X10_350 rfl hM.1 ?_
    rw [am_up_n _ _ (show m ≠ m + 39 by omega), hSt.1.1]
    refine r_icmp_ge (tgt := 143) dX10_levelOf_40 (by decide) (fun _ => ?_) (fun hz => absurd (show _ from (by rw [nI_leI (by omega) (by omega)]; omega)) hz)
    exact hE z4 z5 R hR
  | c + 1, k, z4, z5, R, hc, hR => by
    have hH8 := oS.2.1
    refine r_iload_n dX10_levelOf_35 rfl ?_
    refine r_aload_n dX10_levelOf_36 rfl ?_
    refine r_getI dX10_levelOf_37 fl_X10_350 rfl hM.1 ?_
    rw [am_up_n _ _ (show m ≠ m + 39 by omega), hSt.1.1]
    refine r_icmp_ge (tgt := 143) dX10_levelOf_40 (by decide) (fun hz => absurd hz (show ¬ _ from (by rw [nI_leI (by omega) (by omega)]; omega))) (fun _ => ?_)
    refine r_iconst (v := nI 0) dX10_levelOf_43 (by decide) ?_
    refine r_istore dX10_levelOf_44 (by decide) ?_
    refine r_iconst (v := nI 0) dX10_levelOf_46 (by decide) ?_
    refine r_istore dX10_levelOf_47 (by decide) ?_
    refine w_lvr1 m h n9 k (lvK (lnN H cs e) H (lvN (lnN H cs e) H n9) k) R _ hM hSt hLf oS (by omega) hR (fun j => lv_bd hH8 (show n9 ≤ H by omega) (show k ≤ H by omega) (lvK_le (lvN_le n9) k j)) (fun z5 => ?_) H 0 0 (by omega) (by decide) rfl
    refine r_aload_n dX10_levelOf_129 rfl ?_
    refine r_getR dX10_levelOf_130 fl_X10_142 rfl (kM_0 hM) (pM_75 hM) ?_
    refine r_iload_n dX10_levelOf_133 rfl ?_
    refine r_iload dX10_levelOf_134 rfl ?_
    refine r_iast dX10_levelOf_136 (aM_75 hM) (nI_in8 8 (by omega) (by decide)) (nI_clamp (by omega)) ?_
    rw [am_up_s, am_up_up]
    refine r_iinc (v := nI (k + 1)) dX10_levelOf_137 rfl (nI_inc k) ?_
    refine r_goto (tgt := 35) dX10_levelOf_140 (by decide) ?_
    refine w_lvr2 m h n9 hM hSt hLf oS hn9 hE c (k + 1) _ _ _ (by omega) (fun j hj => ?_)
    show _ = lvI (va_up (lvK (lnN H cs e) H (lvN (lnN H cs e) H n9) k) k _ j)
    by_cases q : j = k
    · rw [q, am_up_s, am_up_s]
    · rw [am_up_n _ _ q, am_up_n _ _ q]; exact hR j hj

set_option maxHeartbeats 4000000 in
set_option maxRecDepth 100000 in
theorem w_lvr3 (m h : Nat) {H M : Nat} {un : Bool} {cs : Nat → List Nat} {tx : Nat → List Int32} {e : Lf} {n : Nat} {kd : mK} {I : mI} {J : mJ} {P : mP} {post : am_Post} (hM : kM kd P m) (hSt : rS I m H M un cs tx) (hLf : rL I m H e) (oS : okS H M cs) (hE : (∀ (z3 z4 z5 : Option Value) (R : Nat → Int32), (∀ j, j < H → R j = lvI (lvN (lnN H cs e) H H j)) → Ru yX10_levelOf.cls cX10_levelOf 6 (some .int) yX10_levelOf.name 9 (post) 0 0 149 [some (.ref m), some (.int (nI h)), some (.int (nI H)), z3, z4, z5] [] n kd (va_up I (m + 39) R) J P)) : ∀ (c n9 : Nat) (z3 z4 z5 : Option Value) (R : Nat → Int32), n9 + c = H → (∀ j, j < H → R j = lvI (lvN (lnN H cs e) H n9 j)) → Ru yX10_levelOf.cls cX10_levelOf 6 (some .int) yX10_levelOf.name 9 (post) 0 0 25 [some (.ref m), some (.int (nI h)), some (.int (nI n9)), z3, z4, z5] [] n kd (va_up I (m + 39) R) J P
  | 0, n9, z3, z4, z5, R, hc, hR => by
    have hH8 := oS.2.1
    rw [show n9 = H by omega] at hR ⊢
    refine r_iload_n dX10_levelOf_25 rfl ?_
    refine r_aload_n dX10_levelOf_26 rfl ?_
    refine r_getI dX10_levelOf_27 fl_X10_350 rfl hM.1 ?_
    rw [am_up_n _ _ (show m ≠ m + 39 by omega), hSt.1.1]
    refine r_icmp_ge (tgt := 149) dX10_levelOf_30 (by decide) (fun _ => ?_) (fun hz => absurd (show _ from (by rw [nI_leI (by omega) (by omega)]; omega)) hz)
    exact hE z3 z4 z5 R hR
  | c + 1, n9, z3, z4, z5, R, hc, hR => by
    have hH8 := oS.2.1
    refine r_iload_n dX10_levelOf_25 rfl ?_
    refine r_aload_n dX10_levelOf_26 rfl ?_
    refine r_getI dX10_levelOf_27 fl_X10_350 rfl hM.1 ?_
    rw [am_up_n _ _ (show m ≠ m + 39 by omega), hSt.1.1]
    refine r_icmp_ge (tgt := 149) dX10_levelOf_30 (by decide) (fun hz => absurd hz (show ¬ _ from (by rw [nI_leI (by omega) (by omega)]; omega))) (fun _ => ?_)
    refine r_iconst (v := nI 0) dX10_levelOf_33 (by decide) ?_
    refine r_istore_n dX10_levelOf_34 (by decide) ?_
    refine w_lvr2 m h n9 hM hSt hLf oS (by omega) (fun z4 z5 R2 hR2 => ?_) H 0 _ _ R (by omega) hR
    refine r_iinc (v := nI (n9 + 1)) dX10_levelOf_143 rfl (nI_inc n9) ?_
    refine r_goto (tgt := 25) dX10_levelOf_146 (by decide) ?_
    exact w_lvr3 m h hM hSt hLf oS hE c (n9 + 1) _ _ _ R2 (by omega) hR2

set_option maxHeartbeats 4000000 in
set_option maxRecDepth 100000 in
theorem c_X10_levelOf (m h : Nat) {H M : Nat} {un : Bool} {cs : Nat → List Nat} {tx : Nat → List Int32} {e : Lf} {n : Nat} {kd : mK} {I : mI} {J : mJ} {P : mP} (hM : kM kd P m) (hSt : rS I m H M un cs tx) (hLf : rL I m H e) (oS : okS H M cs) (hh : h < H) : Ct yX10_levelOf cX10_levelOf 6 (some .int) 9 0 0 [.ref m, .int (nI h)] n kd I J P (fun y n' kd' I' J' P' => y = .inl (some (.int (lvO H cs e h))) ∧ n' = n ∧ kd' = kd ∧ J' = J ∧ P' = P ∧ ∀ a, a ≠ m + 39 → I' a = I a) := by
  have hH8 := oS.2.1
  refine ct_of 4 (by decide +kernel) (Nat.le_of_ble_eq_true rfl) rfl ?_
  refine r_iconst (v := nI 0) dX10_levelOf_0 (by decide) ?_
  refine r_istore_n dX10_levelOf_1 (by decide) ?_
  have hx := w_lvr0 (e := e) m h none none none (n := n) (J := J) hM hSt hLf oS (post := fun y n' kd' I' J' P' => y = .inl (some (.int (lvO H cs e h))) ∧ n' = n ∧ kd' = kd ∧ J' = J ∧ P' = P ∧ ∀ a, a ≠ m + 39 → I' a = I a) (fun R hR0 => ?_) H 0 (I (m + 39)) (by omega) (fun j hj => absurd hj (by omega))
  · rw [am_up_id] at hx
    exact hx
  · skip
    refine r_iconst (v := nI 0) dX10_levelOf_23 (by decide) ?_
    refine r_istore_n dX10_levelOf_24 (by decide) ?_
    refine w_lvr3 (e := e) m h hM hSt hLf oS (fun z3 z4 z5 R hR => ?_) H 0 _ _ _ R (by omega) (fun j hj => hR0 j hj)
    refine r_aload_n dX10_levelOf_149 rfl ?_
    refine r_getR dX10_levelOf_150 fl_X10_142 rfl (kM_0 hM) (pM_75 hM) ?_
    refine r_iload_n dX10_levelOf_153 rfl ?_
    refine r_iald dX10_levelOf_154 (aM_75 hM) (nI_in8 8 (by omega) (by decide)) (nI_clamp (by omega)) ?_
    rw [am_up_s, hR h hh]
    refine r_iret rfl dX10_levelOf_155 ?_
    exact ⟨rfl, rfl, rfl, rfl, rfl, fun a a1 => am_up_n _ _ a1⟩


set_option maxHeartbeats 4000000 in
set_option maxRecDepth 100000 in
theorem q_ring_no (m : Nat) (h : Nat) (y : Int32) {t : Nat} {T : Nat → Nat} {fp : Int32} {rr : Nat → Int32} {H M : Nat} {un : Bool} {cs : Nat → List Nat} {tx : Nat → List Int32} {e : Lf} {im : Option Lf} {wk : Option (List Nat)} {n : Nat} {kd : mK} {I : mI} {J : mJ} {P : mP} (hC : RR m kd I P t T fp rr H M un cs tx e im wk) (hz : okZ t T H M cs e) (hh : h < H) (hy : (!decide (y < 0) && decide (y < nI 2)) = false) : Ct yX10_ring cX10_ring 3 (some .int) 10 0 0 [.ref m, .int (nI h), .int y] n kd I J P (pQ m n kd I J P (some (.int (nI 0))) 1 (RX m t T fp rr H M un cs tx e im wk)) := by
  refine ct_of 0 (by decide +kernel) (Nat.le_of_ble_eq_true rfl) rfl ?_
  refine r_aload_n dX10_ring_0 rfl ?_
  refine r_iconst (v := nI 0) dX10_ring_1 (by decide) ?_
  refine r_putI dX10_ring_2 fl_X10_193 rfl rfl (kM_0 hC.1) ?_
  refine q_th hC (fun I hC h0 => ?_)
  have hC0 := hC
  have hz0 := hz
  obtain ⟨hM, hT, hSt, hLf, hIm, hWk⟩ := hC
  obtain ⟨okt, oks, okl⟩ := hz
  have hH8 : H ≤ 8 := oks.2.1
  have hM20 : 2 ≤ M ∧ M ≤ 20 := oks.1
  have hH : I m 1 = nI H := hSt.1.1
  have hMo : I m 2 = nI M := hSt.1.2.1
  refine r_aload_n dX10_ring_5 rfl ?_
  refine r_iload_n dX10_ring_6 rfl ?_
  refine r_virtE (c_X10_isHouse m (nI h) hM h0) lk_X10_373 mc_X10_isHouse dX10_ring_7 (kM_0 hM) (by decide) rfl rfl (Nat.le_of_ble_eq_true rfl) ?_
  rw [show (!decide (nI h < 0) && decide (nI h < I m 1)) = true from by rw [hH]; exact (isH_of hh (by omega)), thM_ok]
  refine r_if_eq (tgt := 21) dX10_ring_10 (by decide) (fun hz => absurd hz (show ¬ _ from (by decide))) (fun _ => ?_)
  refine r_aload_n dX10_ring_13 rfl ?_
  refine r_iload_n dX10_ring_14 rfl ?_
  refine r_virtE (c_X10_isTwo m (y) hM h0) lk_X10_379 mc_X10_isTwo dX10_ring_15 (kM_0 hM) (by decide) rfl rfl (Nat.le_of_ble_eq_true rfl) ?_
  rw [show (decide (y = 0) || decide (y = nI 1)) = false from two_no hy]
  refine r_if_ne (tgt := 23) dX10_ring_18 (by decide) (fun hz => absurd (show _ from rfl) hz) (fun _ => ?_)
  refine r_iconst (v := nI 0) dX10_ring_21 (by decide) ?_
  refine r_iret rfl dX10_ring_22 ?_
  exact pQ.th hC0 am_is.mk

set_option maxHeartbeats 4000000 in
set_option maxRecDepth 100000 in
theorem q_ring (m : Nat) (h k : Nat) {t : Nat} {T : Nat → Nat} {fp : Int32} {rr : Nat → Int32} {H M : Nat} {un : Bool} {cs : Nat → List Nat} {tx : Nat → List Int32} {e : Lf} {im : Option Lf} {wk : Option (List Nat)} {n : Nat} {kd : mK} {I : mI} {J : mJ} {P : mP} (hC : RR m kd I P t T fp rr H M un cs tx e im wk) (hz : okZ t T H M cs e) (hh : h < H) (hk2 : k < 2) : Ct yX10_ring cX10_ring 3 (some .int) 10 0 0 [.ref m, .int (nI h), .int (nI k)] n kd I J P (pQ m n kd I J P (some (.int (riV H cs e h k))) 0 (RX m t T fp rr H M un cs tx e im wk)) := by
  refine ct_of 0 (by decide +kernel) (Nat.le_of_ble_eq_true rfl) rfl ?_
  refine r_aload_n dX10_ring_0 rfl ?_
  refine r_iconst (v := nI 0) dX10_ring_1 (by decide) ?_
  refine r_putI dX10_ring_2 fl_X10_193 rfl rfl (kM_0 hC.1) ?_
  refine q_th hC (fun I hC h0 => ?_)
  have hC0 := hC
  have hz0 := hz
  obtain ⟨hM, hT, hSt, hLf, hIm, hWk⟩ := hC
  obtain ⟨okt, oks, okl⟩ := hz
  have hH8 : H ≤ 8 := oks.2.1
  have hM20 : 2 ≤ M ∧ M ≤ 20 := oks.1
  have hH : I m 1 = nI H := hSt.1.1
  have hMo : I m 2 = nI M := hSt.1.2.1
  by_cases c : k = 0
  · rw [show riV H cs e h k = rgO H cs e h from if_pos c]
    refine r_aload_n dX10_ring_5 rfl ?_
    refine r_iload_n dX10_ring_6 rfl ?_
    refine r_virtE (c_X10_isHouse m (nI h) hM h0) lk_X10_373 mc_X10_isHouse dX10_ring_7 (kM_0 hM) (by decide) rfl rfl (Nat.le_of_ble_eq_true rfl) ?_
    rw [show (!decide (nI h < 0) && decide (nI h < I m 1)) = true from by rw [hH]; exact (isH_of hh (by omega)), thM_ok]
    refine r_if_eq (tgt := 21) dX10_ring_10 (by decide) (fun hz => absurd hz (show ¬ _ from (by decide))) (fun _ => ?_)
    refine r_aload_n dX10_ring_13 rfl ?_
    refine r_iload_n dX10_ring_14 rfl ?_
    refine r_virtE (c_X10_isTwo m (nI k) hM h0) lk_X10_379 mc_X10_isTwo dX10_ring_15 (kM_0 hM) (by decide) rfl rfl (Nat.le_of_ble_eq_true rfl) ?_
    rw [show (decide (nI k = 0) || decide (nI k = nI 1)) = true from two_of hk2, thM_ok]
    refine r_if_ne (tgt := 23) dX10_ring_18 (by decide) (fun _ => ?_) (fun hz => absurd hz (show ¬ _ from (by decide)))
    refine r_iload_n dX10_ring_23 rfl ?_
    refine r_if_ne (tgt := 35) dX10_ring_24 (by decide) (fun hz => absurd (show _ from (by rw [c]; rfl)) hz) (fun _ => ?_)
    refine r_aload_n dX10_ring_27 rfl ?_
    refine r_iload_n dX10_ring_28 rfl ?_
    refine r_virtE (c_X10_ringOf (e := e) m h hM hSt hLf oks hh) lk_X10_499 mc_X10_ringOf dX10_ring_29 (kM_0 hM) (by decide) rfl rfl (Nat.le_of_ble_eq_true rfl) ?_
    refine r_goto (tgt := 40) dX10_ring_32 (by decide) ?_
    refine r_iret rfl dX10_ring_40 ?_
    exact RR.same h0 hC0
  · rw [show riV H cs e h k = lvO H cs e h from if_neg c]
    refine r_aload_n dX10_ring_5 rfl ?_
    refine r_iload_n dX10_ring_6 rfl ?_
    refine r_virtE (c_X10_isHouse m (nI h) hM h0) lk_X10_373 mc_X10_isHouse dX10_ring_7 (kM_0 hM) (by decide) rfl rfl (Nat.le_of_ble_eq_true rfl) ?_
    rw [show (!decide (nI h < 0) && decide (nI h < I m 1)) = true from by rw [hH]; exact (isH_of hh (by omega)), thM_ok]
    refine r_if_eq (tgt := 21) dX10_ring_10 (by decide) (fun hz => absurd hz (show ¬ _ from (by decide))) (fun _ => ?_)
    refine r_aload_n dX10_ring_13 rfl ?_
    refine r_iload_n dX10_ring_14 rfl ?_
    refine r_virtE (c_X10_isTwo m (nI k) hM h0) lk_X10_379 mc_X10_isTwo dX10_ring_15 (kM_0 hM) (by decide) rfl rfl (Nat.le_of_ble_eq_true rfl) ?_
    rw [show (decide (nI k = 0) || decide (nI k = nI 1)) = true from two_of hk2, thM_ok]
    refine r_if_ne (tgt := 23) dX10_ring_18 (by decide) (fun _ => ?_) (fun hz => absurd hz (show ¬ _ from (by decide)))
    refine r_iload_n dX10_ring_23 rfl ?_
    refine r_if_ne (tgt := 35) dX10_ring_24 (by decide) (fun _ => ?_) (fun hz => absurd hz (show ¬ _ from (nI_ne0 (by omega) (by omega))))
    refine r_aload_n dX10_ring_35 rfl ?_
    refine r_iload_n dX10_ring_36 rfl ?_
    refine r_virt (kc2 := 0) (ks2 := 0) (c_X10_levelOf (e := e) m h hM hSt hLf oks hh) lk_X10_502 mc_X10_levelOf dX10_ring_37 (kM_0 hM) (by decide) rfl rfl (Nat.le_of_ble_eq_true rfl) (by decide) (by decide) (fun _ _ _ _ _ _ h => nomatch h.1) ?_
    rintro v1 n1 kd1 I1 J1 P1 ⟨h00, rfl, rfl, rfl, rfl, hfr⟩
    cases h00
    simp only [Option.toList, List.nil_append, List.cons_append]
    refine r_iret rfl dX10_ring_40 ?_
    exact ⟨rfl, rfl, rfl, rfl, fun a ha => ⟨hfr a (by omega), rfl⟩, by rw [hfr m (by omega)]; exact h0, RR.qu (I := I) (fun a a1 a2 a3 a4 => hfr a (by omega)) (fun j hj => by rw [hfr m (by omega)]) hC0⟩


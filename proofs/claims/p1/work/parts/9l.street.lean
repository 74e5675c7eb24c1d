/-! THE NEW OBJECT: a street of no text -/
theorem rdR_0 (I : mI) (s l x : Nat) : rdR I s l x 0 = rd0 I s l := by
  unfold rdR tks lexF
  rw [if_neg (by omega)]
  show (if ¬ rk _ _ = 0 ∧ rf _ = 0 then _ else _) = _
  rw [if_neg (fun q => q.1 rfl)]
theorem dX9_street_0 : decode cX9_street 0 = .ok (.iload_n 1, 1) := by decide +kernel
theorem dX9_street_1 : decode cX9_street 1 = .ok (.ifCond .lt 11, 3) := by decide +kernel
theorem dX9_street_4 : decode cX9_street 4 = .ok (.iload_n 1, 1) := by decide +kernel
theorem dX9_street_5 : decode cX9_street 5 = .ok (.aload_n 0, 1) := by decide +kernel
theorem dX9_street_6 : decode cX9_street 6 = .ok (.getfield 13, 3) := by decide +kernel
theorem dX9_street_9 : decode cX9_street 9 = .ok (.if_icmp .le 11, 3) := by decide +kernel
theorem dX9_street_12 : decode cX9_street 12 = .ok (.new 110, 3) := by decide +kernel
theorem dX9_street_15 : decode cX9_street 15 = .ok (.dup, 1) := by decide +kernel
theorem dX9_street_16 : decode cX9_street 16 = .ok (.invokespecial 112, 3) := by decide +kernel
theorem dX9_street_19 : decode cX9_street 19 = .ok (.athrow, 1) := by decide +kernel
theorem dX9_street_20 : decode cX9_street 20 = .ok (.aload_n 0, 1) := by decide +kernel
theorem dX9_street_21 : decode cX9_street 21 = .ok (.iconst 0, 1) := by decide +kernel
theorem dX9_street_22 : decode cX9_street 22 = .ok (.putfield 13, 3) := by decide +kernel
theorem dX9_street_25 : decode cX9_street 25 = .ok (.aload_n 0, 1) := by decide +kernel
theorem dX9_street_26 : decode cX9_street 26 = .ok (.getfield 85, 3) := by decide +kernel
theorem dX9_street_29 : decode cX9_street 29 = .ok (.aload_n 0, 1) := by decide +kernel
theorem dX9_street_30 : decode cX9_street 30 = .ok (.getfield 9, 3) := by decide +kernel
theorem dX9_street_33 : decode cX9_street 33 = .ok (.iload_n 1, 1) := by decide +kernel
theorem dX9_street_34 : decode cX9_street 34 = .ok (.aload_n 0, 1) := by decide +kernel
theorem dX9_street_35 : decode cX9_street 35 = .ok (.getfield 31, 3) := by decide +kernel
theorem dX9_street_38 : decode cX9_street 38 = .ok (.aload_n 0, 1) := by decide +kernel
theorem dX9_street_39 : decode cX9_street 39 = .ok (.getfield 41, 3) := by decide +kernel
theorem dX9_street_42 : decode cX9_street 42 = .ok (.invokevirtual 113, 3) := by decide +kernel
theorem dX9_street_45 : decode cX9_street 45 = .ok (.istore_n 2, 1) := by decide +kernel
theorem dX9_street_46 : decode cX9_street 46 = .ok (.aload_n 0, 1) := by decide +kernel
theorem dX9_street_47 : decode cX9_street 47 = .ok (.aload_n 0, 1) := by decide +kernel
theorem dX9_street_48 : decode cX9_street 48 = .ok (.getfield 85, 3) := by decide +kernel
theorem dX9_street_51 : decode cX9_street 51 = .ok (.getfield 117, 3) := by decide +kernel
theorem dX9_street_54 : decode cX9_street 54 = .ok (.putfield 17, 3) := by decide +kernel
theorem dX9_street_57 : decode cX9_street 57 = .ok (.iload_n 2, 1) := by decide +kernel
theorem dX9_street_58 : decode cX9_street 58 = .ok (.ifCond .ne 21, 3) := by decide +kernel
theorem dX9_street_61 : decode cX9_street 61 = .ok (.aload_n 0, 1) := by decide +kernel
theorem dX9_street_62 : decode cX9_street 62 = .ok (.getfield 20, 3) := by decide +kernel
theorem dX9_street_65 : decode cX9_street 65 = .ok (.iconst 0, 1) := by decide +kernel
theorem dX9_street_66 : decode cX9_street 66 = .ok (.dup2, 1) := by decide +kernel
theorem dX9_street_67 : decode cX9_street 67 = .ok (.iaload, 1) := by decide +kernel
theorem dX9_street_68 : decode cX9_street 68 = .ok (.iconst 1, 1) := by decide +kernel
theorem dX9_street_69 : decode cX9_street 69 = .ok (.iadd, 1) := by decide +kernel
theorem dX9_street_70 : decode cX9_street 70 = .ok (.iastore, 1) := by decide +kernel
theorem dX9_street_71 : decode cX9_street 71 = .ok (.aload_n 0, 1) := by decide +kernel
theorem dX9_street_72 : decode cX9_street 72 = .ok (.getfield 85, 3) := by decide +kernel
theorem dX9_street_75 : decode cX9_street 75 = .ok (.getfield 118, 3) := by decide +kernel
theorem dX9_street_78 : decode cX9_street 78 = .ok (.ireturn, 1) := by decide +kernel
theorem dX9_street_79 : decode cX9_street 79 = .ok (.aload_n 0, 1) := by decide +kernel
theorem dX9_street_80 : decode cX9_street 80 = .ok (.invokevirtual 121, 3) := by decide +kernel
theorem dX9_street_83 : decode cX9_street 83 = .ok (.iconst 0, 1) := by decide +kernel
theorem dX9_street_84 : decode cX9_street 84 = .ok (.ireturn, 1) := by decide +kernel
set_option maxHeartbeats 4000000 in
set_option maxRecDepth 100000 in
theorem p_street_no (o : Nat) (x : Int32) {n : Nat} {kd : mK} {I : mI} {J : mJ} {P : mP} (hF : fsC o n kd I J P) (hx : ¬ x = 0) : Ct yX9_street cX9_street 3 (some .int) 63 1 6 [.ref o, .int x] n kd I J P (pC o n kd I J P (.inr "java/lang/IllegalArgumentException")) := by
  have hF0 := hF
  obtain ⟨hX, hO, h12, hz, hn, f3, f13, f23, f29, f35, f41, f47, f56, f58, f61, f66, f67, f48⟩ := hF
  have hX0 := hX
  obtain ⟨⟨c0, c1, c2⟩, ⟨s3, s13⟩, ⟨l23, l29, l35⟩, ⟨q41, a47, g56, w58, r61, d66, p67⟩, ⟨e0, e3, e8, e10, e12, e13, e14, e15, e16, e17⟩, ⟨e4, e5, e6, e7⟩, hbs, hfl, ho⟩ := hX
  have hx2 : ¬ x < 0 → ¬ x ≤ nI 0 := fun h1 h2 => by
    rw [Int32.lt_iff_toInt_lt, show (0 : Int32).toInt = 0 from by decide] at h1
    rw [Int32.le_iff_toInt_le, show (nI 0).toInt = 0 from by decide] at h2
    exact hx (Int32.toInt_inj.mp (by rw [show (0 : Int32).toInt = 0 from by decide]; omega))
  refine ct_of 1 (by decide +kernel) (Nat.le_of_ble_eq_true rfl) rfl ?_
  refine r_iload_n dX9_street_0 rfl ?_
  refine r_if_lt (tgt := 12) dX9_street_1 (by decide) (fun h1 => ?_) (fun h1 => ?_)
  · skip
    refine r_throw (cls := "java/lang/IllegalArgumentException") (names := ["java/lang/RuntimeException", "java/lang/Exception"]) dX9_street_12 dX9_street_15 dX9_street_16 dX9_street_19 (by decide +kernel) (by decide +kernel) cl_X9_110 xi_IllegalArgumentException xa_iae xb_iae (by decide) (Nat.le_of_ble_eq_true rfl) (by omega) (by omega) ?_
    exact pC.eq
  · skip
    refine r_iload_n dX9_street_4 rfl ?_
    refine r_aload_n dX9_street_5 rfl ?_
    refine r_getI dX9_street_6 fl_X9_13 rfl c0 ?_
    rw [show I o 1 = nI 0 from by rw [hO]; rfl]
    refine r_icmp_le (tgt := 20) dX9_street_9 (by decide) (fun hz => absurd hz (show ¬ _ from (hx2 h1))) (fun _ => ?_)
    refine r_throw (cls := "java/lang/IllegalArgumentException") (names := ["java/lang/RuntimeException", "java/lang/Exception"]) dX9_street_12 dX9_street_15 dX9_street_16 dX9_street_19 (by decide +kernel) (by decide +kernel) cl_X9_110 xi_IllegalArgumentException xa_iae xb_iae (by decide) (Nat.le_of_ble_eq_true rfl) (by omega) (by omega) ?_
    exact pC.eq

set_option maxHeartbeats 4000000 in
set_option maxRecDepth 100000 in
theorem p_street_0 (o : Nat) {n : Nat} {kd : mK} {I : mI} {J : mJ} {P : mP} (hF : fsC o n kd I J P) : Ct yX9_street cX9_street 3 (some .int) 63 1 6 [.ref o, .int (nI 0)] n kd I J P (pC o n kd I J P (.inl (some (.int (nI 0))))) := by
  have hF0 := hF
  obtain ⟨hX, hO, h12, hz, hn, f3, f13, f23, f29, f35, f41, f47, f56, f58, f61, f66, f67, f48⟩ := hF
  have hX0 := hX
  obtain ⟨⟨c0, c1, c2⟩, ⟨s3, s13⟩, ⟨l23, l29, l35⟩, ⟨q41, a47, g56, w58, r61, d66, p67⟩, ⟨e0, e3, e8, e10, e12, e13, e14, e15, e16, e17⟩, ⟨e4, e5, e6, e7⟩, hbs, hfl, ho⟩ := hX
  refine ct_of 1 (by decide +kernel) (Nat.le_of_ble_eq_true rfl) rfl ?_
  refine r_iload_n dX9_street_0 rfl ?_
  refine r_if_lt (tgt := 12) dX9_street_1 (by decide) (fun hz => absurd hz (show ¬ _ from (by decide))) (fun _ => ?_)
  refine r_iload_n dX9_street_4 rfl ?_
  refine r_aload_n dX9_street_5 rfl ?_
  refine r_getI dX9_street_6 fl_X9_13 rfl c0 ?_
  rw [show I o 1 = nI 0 from by rw [hO]; rfl]
  refine r_icmp_le (tgt := 20) dX9_street_9 (by decide) (fun _ => ?_) (fun hz => absurd (show _ from (by decide)) hz)
  refine r_aload_n dX9_street_20 rfl ?_
  refine r_iconst (v := nI 0) dX9_street_21 (by decide) ?_
  refine r_putI dX9_street_22 fl_X9_13 rfl rfl c0 ?_
  refine r_aload_n dX9_street_25 rfl ?_
  refine r_getR dX9_street_26 fl_X9_85 rfl c0 e15 ?_
  refine r_aload_n dX9_street_29 rfl ?_
  refine r_getR dX9_street_30 fl_X9_9 rfl c0 e0 ?_
  refine r_iload_n dX9_street_33 rfl ?_
  refine r_aload_n dX9_street_34 rfl ?_
  refine r_getR dX9_street_35 fl_X9_31 rfl c0 e5 ?_
  refine r_aload_n dX9_street_38 rfl ?_
  refine r_getR dX9_street_39 fl_X9_41 rfl c0 e7 ?_
  refine r_virt (kc2 := 1) (ks2 := 6) (c_X5_read (o + 61) (o + 13) (o + 29) (o + 1) 500 0 0 r61.1 r61.2.1 r61.2.2.1 r61.2.2.2.1 r61.2.2.2.2.1 r61.2.2.2.2.2.1 r61.2.2.2.2.2.2 s13 l29 (by omega) (by omega) c1 (by omega) (by decide) (by decide) (by decide) (fun i hi => absurd hi (by omega)) (by omega) (by omega)) lk_X9_113 mc_X5_read dX9_street_42 r61.1 (by decide) rfl rfl (Nat.le_of_ble_eq_true rfl) (by decide) (by decide) (fun _ _ _ _ _ _ h => nomatch h.1) ?_
  rintro v n1 kd1 I1 J1 P1 ⟨h0, rfl, rfl, rfl, rfl, I0, hI, hi1, -⟩
  cases h0
  simp only [Option.toList, List.cons_append, List.nil_append]
  rw [rdR_0, show decide (rf (rd0 (va_up I o (va_up (I o) 1 (nI 0))) (o + 13) (o + 29)) = 0) = true from rfl]
  have hP1 : ∀ a, a ≠ o + 61 → rdQ P (o + 61) (o + 1) (o + 13) (o + 29) a = P a := fun a ha => rdQ_ne ha
  have hfr : ∀ a, o + 69 ≤ a → I1 a = I a := fun a ha => by rw [hI, rI_ne _ _ _ (by omega) (by omega) (by omega), hi1 a (by omega), am_up_n _ _ (by omega)]
  refine r_istore_n dX9_street_45 (by decide) ?_
  refine r_aload_n dX9_street_46 rfl ?_
  refine r_aload_n dX9_street_47 rfl ?_
  refine r_getR dX9_street_48 fl_X9_85 rfl c0 (by rw [hP1 o (by omega)]; exact e15) ?_
  refine r_getI dX9_street_51 fl_X9_117 rfl r61.1 ?_
  refine r_putI dX9_street_54 fl_X9_17 rfl rfl c0 ?_
  refine r_iload_n dX9_street_57 rfl ?_
  refine r_if_ne (tgt := 79) dX9_street_58 (by decide) (fun _ => ?_) (fun hz => absurd hz (show ¬ _ from (by decide)))
  refine r_aload_n dX9_street_79 rfl ?_
  refine r_virt (kc2 := 1) (ks2 := 6) (c_X9_moveIn o (o + 3) (o + 13) (o + 23) (o + 29) (kX_rdQ hX0)) lk_X9_121 mc_X9_moveIn dX9_street_80 c0 (by decide) rfl rfl (Nat.le_of_ble_eq_true rfl) (by decide) (by decide) (fun _ _ _ _ _ _ h => nomatch h.1) ?_
  rintro v n2 kd2 I2 J2 P2 ⟨h0, rfl, rfl, rfl, -, -, m9, m10, -, -⟩
  cases h0
  simp only [Option.toList, List.nil_append]
  refine r_iconst (v := nI 0) dX9_street_83 (by decide) ?_
  refine r_iret rfl dX9_street_84 ?_
  exact ⟨rfl, ⟨by omega, by omega⟩, fun a a1 _ => ⟨rfl, by rw [m10 a (by omega) (by omega), am_up_n _ _ (by omega)]; exact hfr a a1, rfl, by rw [m9 a (by omega)]; exact hP1 a (by omega)⟩⟩

theorem dX10_byteAt_0 : decode cX10_byteAt 0 = .ok (.iload_n 1, 1) := by decide +kernel
theorem dX10_byteAt_1 : decode cX10_byteAt 1 = .ok (.aload_n 0, 1) := by decide +kernel
theorem dX10_byteAt_2 : decode cX10_byteAt 2 = .ok (.getfield 203, 3) := by decide +kernel
theorem dX10_byteAt_5 : decode cX10_byteAt 5 = .ok (.if_icmp .ge 12, 3) := by decide +kernel
theorem dX10_byteAt_8 : decode cX10_byteAt 8 = .ok (.aload_n 0, 1) := by decide +kernel
theorem dX10_byteAt_9 : decode cX10_byteAt 9 = .ok (.getfield 44, 3) := by decide +kernel
theorem dX10_byteAt_12 : decode cX10_byteAt 12 = .ok (.iload_n 1, 1) := by decide +kernel
theorem dX10_byteAt_13 : decode cX10_byteAt 13 = .ok (.iaload, 1) := by decide +kernel
theorem dX10_byteAt_14 : decode cX10_byteAt 14 = .ok (.goto 4, 3) := by decide +kernel
theorem dX10_byteAt_17 : decode cX10_byteAt 17 = .ok (.iconst 0, 1) := by decide +kernel
theorem dX10_byteAt_18 : decode cX10_byteAt 18 = .ok (.ireturn, 1) := by decide +kernel
set_option maxHeartbeats 4000000 in
set_option maxRecDepth 100000 in
theorem c_byte0 (m : Nat) {n : Nat} {kd : mK} {I : mI} {J : mJ} {P : mP} (hM : kM kd P m) (h19 : I m 19 = nI 0) : Ct yX10_byteAt cX10_byteAt 2 (some .int) 1 0 0 [.ref m, .int (nI 0)] n kd I J P (am_is (some (.int (nI 0))) n kd I J P) := by
  refine ct_of 0 (by decide +kernel) (Nat.le_of_ble_eq_true rfl) rfl ?_
  refine r_iload_n dX10_byteAt_0 rfl ?_
  refine r_aload_n dX10_byteAt_1 rfl ?_
  refine r_getI dX10_byteAt_2 fl_X10_203 rfl (kM_0 hM) ?_
  rw [h19]
  refine r_icmp_ge (tgt := 17) dX10_byteAt_5 (by decide) (fun _ => ?_) (fun hz => absurd (show _ from (by decide)) hz)
  refine r_iconst (v := nI 0) dX10_byteAt_17 (by decide) ?_
  refine r_iret rfl dX10_byteAt_18 ?_
  exact am_is.mk

theorem dX10_goes_0 : decode cX10_goes 0 = .ok (.aload_n 0, 1) := by decide +kernel
theorem dX10_goes_1 : decode cX10_goes 1 = .ok (.getfield 206, 3) := by decide +kernel
theorem dX10_goes_4 : decode cX10_goes 4 = .ok (.aload_n 0, 1) := by decide +kernel
theorem dX10_goes_5 : decode cX10_goes 5 = .ok (.getfield 203, 3) := by decide +kernel
theorem dX10_goes_8 : decode cX10_goes 8 = .ok (.if_icmp .ge 42, 3) := by decide +kernel
theorem dX10_goes_11 : decode cX10_goes 11 = .ok (.aload_n 0, 1) := by decide +kernel
theorem dX10_goes_12 : decode cX10_goes 12 = .ok (.aload_n 0, 1) := by decide +kernel
theorem dX10_goes_13 : decode cX10_goes 13 = .ok (.getfield 206, 3) := by decide +kernel
theorem dX10_goes_16 : decode cX10_goes 16 = .ok (.invokevirtual 209, 3) := by decide +kernel
theorem dX10_goes_19 : decode cX10_goes 19 = .ok (.bipush 32, 2) := by decide +kernel
theorem dX10_goes_21 : decode cX10_goes 21 = .ok (.if_icmp .eq 16, 3) := by decide +kernel
theorem dX10_goes_24 : decode cX10_goes 24 = .ok (.aload_n 0, 1) := by decide +kernel
theorem dX10_goes_25 : decode cX10_goes 25 = .ok (.aload_n 0, 1) := by decide +kernel
theorem dX10_goes_26 : decode cX10_goes 26 = .ok (.getfield 206, 3) := by decide +kernel
theorem dX10_goes_29 : decode cX10_goes 29 = .ok (.invokevirtual 209, 3) := by decide +kernel
theorem dX10_goes_32 : decode cX10_goes 32 = .ok (.bipush 10, 2) := by decide +kernel
theorem dX10_goes_34 : decode cX10_goes 34 = .ok (.if_icmp .ne 16, 3) := by decide +kernel
theorem dX10_goes_37 : decode cX10_goes 37 = .ok (.aload_n 0, 1) := by decide +kernel
theorem dX10_goes_38 : decode cX10_goes 38 = .ok (.dup, 1) := by decide +kernel
theorem dX10_goes_39 : decode cX10_goes 39 = .ok (.getfield 206, 3) := by decide +kernel
theorem dX10_goes_42 : decode cX10_goes 42 = .ok (.iconst 1, 1) := by decide +kernel
theorem dX10_goes_43 : decode cX10_goes 43 = .ok (.iadd, 1) := by decide +kernel
theorem dX10_goes_44 : decode cX10_goes 44 = .ok (.putfield 206, 3) := by decide +kernel
theorem dX10_goes_47 : decode cX10_goes 47 = .ok (.goto (-47), 3) := by decide +kernel
theorem dX10_goes_50 : decode cX10_goes 50 = .ok (.aload_n 0, 1) := by decide +kernel
theorem dX10_goes_51 : decode cX10_goes 51 = .ok (.aload_n 0, 1) := by decide +kernel
theorem dX10_goes_52 : decode cX10_goes 52 = .ok (.getfield 206, 3) := by decide +kernel
theorem dX10_goes_55 : decode cX10_goes 55 = .ok (.putfield 213, 3) := by decide +kernel
theorem dX10_goes_58 : decode cX10_goes 58 = .ok (.aload_n 0, 1) := by decide +kernel
theorem dX10_goes_59 : decode cX10_goes 59 = .ok (.lconst 0, 1) := by decide +kernel
theorem dX10_goes_60 : decode cX10_goes 60 = .ok (.putfield 216, 3) := by decide +kernel
theorem dX10_goes_63 : decode cX10_goes 63 = .ok (.aload_n 0, 1) := by decide +kernel
theorem dX10_goes_64 : decode cX10_goes 64 = .ok (.iconst 0, 1) := by decide +kernel
theorem dX10_goes_65 : decode cX10_goes 65 = .ok (.putfield 220, 3) := by decide +kernel
theorem dX10_goes_68 : decode cX10_goes 68 = .ok (.aload_n 0, 1) := by decide +kernel
theorem dX10_goes_69 : decode cX10_goes 69 = .ok (.aload_n 0, 1) := by decide +kernel
theorem dX10_goes_70 : decode cX10_goes 70 = .ok (.getfield 206, 3) := by decide +kernel
theorem dX10_goes_73 : decode cX10_goes 73 = .ok (.invokevirtual 209, 3) := by decide +kernel
theorem dX10_goes_76 : decode cX10_goes 76 = .ok (.istore_n 1, 1) := by decide +kernel
theorem dX10_goes_77 : decode cX10_goes 77 = .ok (.aload_n 0, 1) := by decide +kernel
theorem dX10_goes_78 : decode cX10_goes 78 = .ok (.iload_n 1, 1) := by decide +kernel
theorem dX10_goes_79 : decode cX10_goes 79 = .ok (.putfield 223, 3) := by decide +kernel
theorem dX10_goes_82 : decode cX10_goes 82 = .ok (.aload_n 0, 1) := by decide +kernel
theorem dX10_goes_83 : decode cX10_goes 83 = .ok (.getfield 206, 3) := by decide +kernel
theorem dX10_goes_86 : decode cX10_goes 86 = .ok (.aload_n 0, 1) := by decide +kernel
theorem dX10_goes_87 : decode cX10_goes 87 = .ok (.getfield 203, 3) := by decide +kernel
theorem dX10_goes_90 : decode cX10_goes 90 = .ok (.if_icmp .lt 11, 3) := by decide +kernel
theorem dX10_goes_93 : decode cX10_goes 93 = .ok (.aload_n 0, 1) := by decide +kernel
theorem dX10_goes_94 : decode cX10_goes 94 = .ok (.iconst 0, 1) := by decide +kernel
theorem dX10_goes_95 : decode cX10_goes 95 = .ok (.putfield 226, 3) := by decide +kernel
theorem dX10_goes_98 : decode cX10_goes 98 = .ok (.goto 233, 3) := by decide +kernel
theorem dX10_goes_101 : decode cX10_goes 101 = .ok (.iload_n 1, 1) := by decide +kernel
theorem dX10_goes_102 : decode cX10_goes 102 = .ok (.invokestatic 229, 3) := by decide +kernel
theorem dX10_goes_105 : decode cX10_goes 105 = .ok (.ifCond .eq 75, 3) := by decide +kernel
theorem dX10_goes_108 : decode cX10_goes 108 = .ok (.aload_n 0, 1) := by decide +kernel
theorem dX10_goes_109 : decode cX10_goes 109 = .ok (.aload_n 0, 1) := by decide +kernel
theorem dX10_goes_110 : decode cX10_goes 110 = .ok (.getfield 206, 3) := by decide +kernel
theorem dX10_goes_113 : decode cX10_goes 113 = .ok (.invokevirtual 209, 3) := by decide +kernel
theorem dX10_goes_116 : decode cX10_goes 116 = .ok (.invokestatic 229, 3) := by decide +kernel
theorem dX10_goes_119 : decode cX10_goes 119 = .ok (.ifCond .eq 53, 3) := by decide +kernel
theorem dX10_goes_122 : decode cX10_goes 122 = .ok (.aload_n 0, 1) := by decide +kernel
theorem dX10_goes_123 : decode cX10_goes 123 = .ok (.getfield 206, 3) := by decide +kernel
theorem dX10_goes_126 : decode cX10_goes 126 = .ok (.aload_n 0, 1) := by decide +kernel
theorem dX10_goes_127 : decode cX10_goes 127 = .ok (.getfield 213, 3) := by decide +kernel
theorem dX10_goes_130 : decode cX10_goes 130 = .ok (.isub, 1) := by decide +kernel
theorem dX10_goes_131 : decode cX10_goes 131 = .ok (.bipush 6, 2) := by decide +kernel
theorem dX10_goes_133 : decode cX10_goes 133 = .ok (.if_icmp .ge 26, 3) := by decide +kernel
theorem dX10_goes_136 : decode cX10_goes 136 = .ok (.aload_n 0, 1) := by decide +kernel
theorem dX10_goes_137 : decode cX10_goes 137 = .ok (.aload_n 0, 1) := by decide +kernel
theorem dX10_goes_138 : decode cX10_goes 138 = .ok (.getfield 216, 3) := by decide +kernel
theorem dX10_goes_141 : decode cX10_goes 141 = .ok (.iconst 5, 1) := by decide +kernel
theorem dX10_goes_142 : decode cX10_goes 142 = .ok (.lshl, 1) := by decide +kernel
theorem dX10_goes_143 : decode cX10_goes 143 = .ok (.aload_n 0, 1) := by decide +kernel
theorem dX10_goes_144 : decode cX10_goes 144 = .ok (.aload_n 0, 1) := by decide +kernel
theorem dX10_goes_145 : decode cX10_goes 145 = .ok (.getfield 206, 3) := by decide +kernel
theorem dX10_goes_148 : decode cX10_goes 148 = .ok (.invokevirtual 209, 3) := by decide +kernel
theorem dX10_goes_151 : decode cX10_goes 151 = .ok (.bipush 96, 2) := by decide +kernel
theorem dX10_goes_153 : decode cX10_goes 153 = .ok (.isub, 1) := by decide +kernel
theorem dX10_goes_154 : decode cX10_goes 154 = .ok (.i2l, 1) := by decide +kernel
theorem dX10_goes_155 : decode cX10_goes 155 = .ok (.lor, 1) := by decide +kernel
theorem dX10_goes_156 : decode cX10_goes 156 = .ok (.putfield 216, 3) := by decide +kernel
theorem dX10_goes_159 : decode cX10_goes 159 = .ok (.aload_n 0, 1) := by decide +kernel
theorem dX10_goes_160 : decode cX10_goes 160 = .ok (.dup, 1) := by decide +kernel
theorem dX10_goes_161 : decode cX10_goes 161 = .ok (.getfield 206, 3) := by decide +kernel
theorem dX10_goes_164 : decode cX10_goes 164 = .ok (.iconst 1, 1) := by decide +kernel
theorem dX10_goes_165 : decode cX10_goes 165 = .ok (.iadd, 1) := by decide +kernel
theorem dX10_goes_166 : decode cX10_goes 166 = .ok (.putfield 206, 3) := by decide +kernel
theorem dX10_goes_169 : decode cX10_goes 169 = .ok (.goto (-61), 3) := by decide +kernel
theorem dX10_goes_172 : decode cX10_goes 172 = .ok (.aload_n 0, 1) := by decide +kernel
theorem dX10_goes_173 : decode cX10_goes 173 = .ok (.iconst 1, 1) := by decide +kernel
theorem dX10_goes_174 : decode cX10_goes 174 = .ok (.putfield 226, 3) := by decide +kernel
theorem dX10_goes_177 : decode cX10_goes 177 = .ok (.goto 154, 3) := by decide +kernel
theorem dX10_goes_180 : decode cX10_goes 180 = .ok (.iload_n 1, 1) := by decide +kernel
theorem dX10_goes_181 : decode cX10_goes 181 = .ok (.invokestatic 233, 3) := by decide +kernel
theorem dX10_goes_184 : decode cX10_goes 184 = .ok (.ifCond .eq 74, 3) := by decide +kernel
theorem dX10_goes_187 : decode cX10_goes 187 = .ok (.aload_n 0, 1) := by decide +kernel
theorem dX10_goes_188 : decode cX10_goes 188 = .ok (.aload_n 0, 1) := by decide +kernel
theorem dX10_goes_189 : decode cX10_goes 189 = .ok (.getfield 206, 3) := by decide +kernel
theorem dX10_goes_192 : decode cX10_goes 192 = .ok (.invokevirtual 209, 3) := by decide +kernel
theorem dX10_goes_195 : decode cX10_goes 195 = .ok (.invokestatic 233, 3) := by decide +kernel
theorem dX10_goes_198 : decode cX10_goes 198 = .ok (.ifCond .eq 52, 3) := by decide +kernel
theorem dX10_goes_201 : decode cX10_goes 201 = .ok (.aload_n 0, 1) := by decide +kernel
theorem dX10_goes_202 : decode cX10_goes 202 = .ok (.getfield 206, 3) := by decide +kernel
theorem dX10_goes_205 : decode cX10_goes 205 = .ok (.aload_n 0, 1) := by decide +kernel
theorem dX10_goes_206 : decode cX10_goes 206 = .ok (.getfield 213, 3) := by decide +kernel
theorem dX10_goes_209 : decode cX10_goes 209 = .ok (.isub, 1) := by decide +kernel
theorem dX10_goes_210 : decode cX10_goes 210 = .ok (.iconst 4, 1) := by decide +kernel
theorem dX10_goes_211 : decode cX10_goes 211 = .ok (.if_icmp .ge 26, 3) := by decide +kernel
theorem dX10_goes_214 : decode cX10_goes 214 = .ok (.aload_n 0, 1) := by decide +kernel
theorem dX10_goes_215 : decode cX10_goes 215 = .ok (.bipush 10, 2) := by decide +kernel
theorem dX10_goes_217 : decode cX10_goes 217 = .ok (.aload_n 0, 1) := by decide +kernel
theorem dX10_goes_218 : decode cX10_goes 218 = .ok (.getfield 220, 3) := by decide +kernel
theorem dX10_goes_221 : decode cX10_goes 221 = .ok (.imul, 1) := by decide +kernel
theorem dX10_goes_222 : decode cX10_goes 222 = .ok (.aload_n 0, 1) := by decide +kernel
theorem dX10_goes_223 : decode cX10_goes 223 = .ok (.aload_n 0, 1) := by decide +kernel
theorem dX10_goes_224 : decode cX10_goes 224 = .ok (.getfield 206, 3) := by decide +kernel
theorem dX10_goes_227 : decode cX10_goes 227 = .ok (.invokevirtual 209, 3) := by decide +kernel
theorem dX10_goes_230 : decode cX10_goes 230 = .ok (.iadd, 1) := by decide +kernel
theorem dX10_goes_231 : decode cX10_goes 231 = .ok (.bipush 48, 2) := by decide +kernel
theorem dX10_goes_233 : decode cX10_goes 233 = .ok (.isub, 1) := by decide +kernel
theorem dX10_goes_234 : decode cX10_goes 234 = .ok (.putfield 220, 3) := by decide +kernel
theorem dX10_goes_237 : decode cX10_goes 237 = .ok (.aload_n 0, 1) := by decide +kernel
theorem dX10_goes_238 : decode cX10_goes 238 = .ok (.dup, 1) := by decide +kernel
theorem dX10_goes_239 : decode cX10_goes 239 = .ok (.getfield 206, 3) := by decide +kernel
theorem dX10_goes_242 : decode cX10_goes 242 = .ok (.iconst 1, 1) := by decide +kernel
theorem dX10_goes_243 : decode cX10_goes 243 = .ok (.iadd, 1) := by decide +kernel
theorem dX10_goes_244 : decode cX10_goes 244 = .ok (.putfield 206, 3) := by decide +kernel
theorem dX10_goes_247 : decode cX10_goes 247 = .ok (.goto (-60), 3) := by decide +kernel
theorem dX10_goes_250 : decode cX10_goes 250 = .ok (.aload_n 0, 1) := by decide +kernel
theorem dX10_goes_251 : decode cX10_goes 251 = .ok (.iconst 2, 1) := by decide +kernel
theorem dX10_goes_252 : decode cX10_goes 252 = .ok (.putfield 226, 3) := by decide +kernel
theorem dX10_goes_255 : decode cX10_goes 255 = .ok (.goto 76, 3) := by decide +kernel
theorem dX10_goes_258 : decode cX10_goes 258 = .ok (.aload_n 0, 1) := by decide +kernel
theorem dX10_goes_259 : decode cX10_goes 259 = .ok (.dup, 1) := by decide +kernel
theorem dX10_goes_260 : decode cX10_goes 260 = .ok (.getfield 206, 3) := by decide +kernel
theorem dX10_goes_263 : decode cX10_goes 263 = .ok (.iconst 1, 1) := by decide +kernel
theorem dX10_goes_264 : decode cX10_goes 264 = .ok (.iadd, 1) := by decide +kernel
theorem dX10_goes_265 : decode cX10_goes 265 = .ok (.putfield 206, 3) := by decide +kernel
theorem dX10_goes_268 : decode cX10_goes 268 = .ok (.aload_n 0, 1) := by decide +kernel
theorem dX10_goes_269 : decode cX10_goes 269 = .ok (.iload_n 1, 1) := by decide +kernel
theorem dX10_goes_270 : decode cX10_goes 270 = .ok (.bipush 59, 2) := by decide +kernel
theorem dX10_goes_272 : decode cX10_goes 272 = .ok (.if_icmp .eq 51, 3) := by decide +kernel
theorem dX10_goes_275 : decode cX10_goes 275 = .ok (.iload_n 1, 1) := by decide +kernel
theorem dX10_goes_276 : decode cX10_goes 276 = .ok (.bipush 40, 2) := by decide +kernel
theorem dX10_goes_278 : decode cX10_goes 278 = .ok (.if_icmp .eq 45, 3) := by decide +kernel
theorem dX10_goes_281 : decode cX10_goes 281 = .ok (.iload_n 1, 1) := by decide +kernel
theorem dX10_goes_282 : decode cX10_goes 282 = .ok (.bipush 41, 2) := by decide +kernel
theorem dX10_goes_284 : decode cX10_goes 284 = .ok (.if_icmp .eq 39, 3) := by decide +kernel
theorem dX10_goes_287 : decode cX10_goes 287 = .ok (.iload_n 1, 1) := by decide +kernel
theorem dX10_goes_288 : decode cX10_goes 288 = .ok (.bipush 43, 2) := by decide +kernel
theorem dX10_goes_290 : decode cX10_goes 290 = .ok (.if_icmp .eq 33, 3) := by decide +kernel
theorem dX10_goes_293 : decode cX10_goes 293 = .ok (.iload_n 1, 1) := by decide +kernel
theorem dX10_goes_294 : decode cX10_goes 294 = .ok (.bipush 45, 2) := by decide +kernel
theorem dX10_goes_296 : decode cX10_goes 296 = .ok (.if_icmp .eq 27, 3) := by decide +kernel
theorem dX10_goes_299 : decode cX10_goes 299 = .ok (.iload_n 1, 1) := by decide +kernel
theorem dX10_goes_300 : decode cX10_goes 300 = .ok (.bipush 42, 2) := by decide +kernel
theorem dX10_goes_302 : decode cX10_goes 302 = .ok (.if_icmp .eq 21, 3) := by decide +kernel
theorem dX10_goes_305 : decode cX10_goes 305 = .ok (.iload_n 1, 1) := by decide +kernel
theorem dX10_goes_306 : decode cX10_goes 306 = .ok (.bipush 47, 2) := by decide +kernel
theorem dX10_goes_308 : decode cX10_goes 308 = .ok (.if_icmp .eq 15, 3) := by decide +kernel
theorem dX10_goes_311 : decode cX10_goes 311 = .ok (.iload_n 1, 1) := by decide +kernel
theorem dX10_goes_312 : decode cX10_goes 312 = .ok (.bipush 60, 2) := by decide +kernel
theorem dX10_goes_314 : decode cX10_goes 314 = .ok (.if_icmp .eq 9, 3) := by decide +kernel
theorem dX10_goes_317 : decode cX10_goes 317 = .ok (.iload_n 1, 1) := by decide +kernel
theorem dX10_goes_318 : decode cX10_goes 318 = .ok (.bipush 61, 2) := by decide +kernel
theorem dX10_goes_320 : decode cX10_goes 320 = .ok (.if_icmp .ne 7, 3) := by decide +kernel
theorem dX10_goes_323 : decode cX10_goes 323 = .ok (.iconst 3, 1) := by decide +kernel
theorem dX10_goes_324 : decode cX10_goes 324 = .ok (.goto 4, 3) := by decide +kernel
theorem dX10_goes_327 : decode cX10_goes 327 = .ok (.iconst 4, 1) := by decide +kernel
theorem dX10_goes_328 : decode cX10_goes 328 = .ok (.putfield 226, 3) := by decide +kernel
theorem dX10_goes_331 : decode cX10_goes 331 = .ok (.aload_n 0, 1) := by decide +kernel
theorem dX10_goes_332 : decode cX10_goes 332 = .ok (.aload_n 0, 1) := by decide +kernel
theorem dX10_goes_333 : decode cX10_goes 333 = .ok (.getfield 206, 3) := by decide +kernel
theorem dX10_goes_336 : decode cX10_goes 336 = .ok (.aload_n 0, 1) := by decide +kernel
theorem dX10_goes_337 : decode cX10_goes 337 = .ok (.getfield 213, 3) := by decide +kernel
theorem dX10_goes_340 : decode cX10_goes 340 = .ok (.isub, 1) := by decide +kernel
theorem dX10_goes_341 : decode cX10_goes 341 = .ok (.putfield 236, 3) := by decide +kernel
theorem dX10_goes_344 : decode cX10_goes 344 = .ok (.return_, 1) := by decide +kernel

set_option maxHeartbeats 4000000 in
set_option maxRecDepth 100000 in
theorem c_goes0 (m : Nat) {n : Nat} {kd : mK} {I : mI} {J : mJ} {P : mP} (hM : kM kd P m) (h20 : I m 20 = nI 0) (h19 : I m 19 = nI 0) : Ct yX10_goes cX10_goes 2 none 2 0 0 [.ref m] n kd I J P (fun z n' kd' I' J' P' => z = .inl none ∧ n' = n ∧ kd' = kd ∧ P' = P ∧ (∀ a, a ≠ m → J' a = J a ∧ I' a = I a) ∧ I' m 21 = nI 0 ∧ (∀ j, j ≠ 22 → j ≠ 24 → j ≠ 25 → j ≠ 21 → j ≠ 23 → I' m j = I m j)) := by
  refine ct_of 1 (by decide +kernel) (Nat.le_of_ble_eq_true rfl) rfl ?_
  refine r_aload_n dX10_goes_0 rfl ?_
  refine r_getI dX10_goes_1 fl_X10_206 rfl (kM_0 hM) ?_
  rw [h20]
  refine r_aload_n dX10_goes_4 rfl ?_
  refine r_getI dX10_goes_5 fl_X10_203 rfl (kM_0 hM) ?_
  rw [h19]
  refine r_icmp_ge (tgt := 50) dX10_goes_8 (by decide) (fun _ => ?_) (fun hz => absurd (show _ from (by decide)) hz)
  refine r_aload_n dX10_goes_50 rfl ?_
  refine r_aload_n dX10_goes_51 rfl ?_
  refine r_getI dX10_goes_52 fl_X10_206 rfl (kM_0 hM) ?_
  rw [h20]
  refine r_putI dX10_goes_55 fl_X10_213 rfl rfl (kM_0 hM) ?_
  refine r_aload_n dX10_goes_58 rfl ?_
  refine r_lconst (v := 0) dX10_goes_59 (by decide) ?_
  refine r_putJ dX10_goes_60 fl_X10_216 rfl rfl (kM_0 hM) ?_
  refine r_aload_n dX10_goes_63 rfl ?_
  refine r_iconst (v := nI 0) dX10_goes_64 (by decide) ?_
  refine r_putI dX10_goes_65 fl_X10_220 rfl rfl (kM_0 hM) ?_
  rw [am_up_s, am_up_up]
  refine r_aload_n dX10_goes_68 rfl ?_
  refine r_aload_n dX10_goes_69 rfl ?_
  refine r_getI dX10_goes_70 fl_X10_206 rfl (kM_0 hM) ?_
  rw [show (va_up I m (va_up (va_up (I m) 22 (nI 0)) 24 (nI 0))) m 20 = nI 0 from (by rw [am_up_s, am_up_n _ _ (by decide), am_up_n _ _ (by decide)]; exact h20)]
  refine r_virtE (c_byte0 m hM (by rw [am_up_s, am_up_n _ _ (by decide), am_up_n _ _ (by decide)]; exact h19)) lk_X10_209 mc_X10_byteAt dX10_goes_73 hM.1 (by decide) rfl rfl (Nat.le_of_ble_eq_true rfl) ?_
  refine r_istore_n dX10_goes_76 (by decide) ?_
  refine r_aload_n dX10_goes_77 rfl ?_
  refine r_iload_n dX10_goes_78 rfl ?_
  refine r_putI dX10_goes_79 fl_X10_223 rfl rfl (kM_0 hM) ?_
  rw [am_up_s, am_up_up]
  refine r_aload_n dX10_goes_82 rfl ?_
  refine r_getI dX10_goes_83 fl_X10_206 rfl (kM_0 hM) ?_
  rw [show (va_up I m (va_up (va_up (va_up (I m) 22 (nI 0)) 24 (nI 0)) 25 (nI 0))) m 20 = nI 0 from (by rw [am_up_s, am_up_n _ _ (by decide), am_up_n _ _ (by decide), am_up_n _ _ (by decide)]; exact h20)]
  refine r_aload_n dX10_goes_86 rfl ?_
  refine r_getI dX10_goes_87 fl_X10_203 rfl (kM_0 hM) ?_
  rw [show (va_up I m (va_up (va_up (va_up (I m) 22 (nI 0)) 24 (nI 0)) 25 (nI 0))) m 19 = nI 0 from (by rw [am_up_s, am_up_n _ _ (by decide), am_up_n _ _ (by decide), am_up_n _ _ (by decide)]; exact h19)]
  refine r_icmp_lt (tgt := 101) dX10_goes_90 (by decide) (fun hz => absurd hz (show ¬ _ from (by decide))) (fun _ => ?_)
  refine r_aload_n dX10_goes_93 rfl ?_
  refine r_iconst (v := nI 0) dX10_goes_94 (by decide) ?_
  refine r_putI dX10_goes_95 fl_X10_226 rfl rfl (kM_0 hM) ?_
  rw [am_up_s, am_up_up]
  refine r_goto (tgt := 331) dX10_goes_98 (by decide) ?_
  refine r_aload_n dX10_goes_331 rfl ?_
  refine r_aload_n dX10_goes_332 rfl ?_
  refine r_getI dX10_goes_333 fl_X10_206 rfl (kM_0 hM) ?_
  refine r_aload_n dX10_goes_336 rfl ?_
  refine r_getI dX10_goes_337 fl_X10_213 rfl (kM_0 hM) ?_
  refine r_isub dX10_goes_340 ?_
  refine r_putI dX10_goes_341 fl_X10_236 rfl rfl (kM_0 hM) ?_
  rw [am_up_s, am_up_up]
  refine r_vret rfl dX10_goes_344 ?_
  refine ⟨rfl, rfl, rfl, rfl, fun a ha => ⟨am_up_n _ _ ha, am_up_n _ _ ha⟩, ?_, fun j j1 j2 j3 j4 j5 => ?_⟩
  · simp (disch := decide) only [am_up_s, am_up_n]
  · rw [am_up_s, am_up_n _ _ j5, am_up_n _ _ j4, am_up_n _ _ j3, am_up_n _ _ j2, am_up_n _ _ j1]

theorem dX10_isGood_0 : decode cX10_isGood 0 = .ok (.aload_n 0, 1) := by decide +kernel
theorem dX10_isGood_1 : decode cX10_isGood 1 = .ok (.getfield 249, 3) := by decide +kernel
theorem dX10_isGood_4 : decode cX10_isGood 4 = .ok (.ifCond .ne 7, 3) := by decide +kernel
theorem dX10_isGood_7 : decode cX10_isGood 7 = .ok (.iconst 1, 1) := by decide +kernel
theorem dX10_isGood_8 : decode cX10_isGood 8 = .ok (.goto 4, 3) := by decide +kernel
theorem dX10_isGood_11 : decode cX10_isGood 11 = .ok (.iconst 0, 1) := by decide +kernel
theorem dX10_isGood_12 : decode cX10_isGood 12 = .ok (.ireturn, 1) := by decide +kernel
set_option maxHeartbeats 4000000 in
set_option maxRecDepth 100000 in
theorem c_good0 (m : Nat) {n : Nat} {kd : mK} {I : mI} {J : mJ} {P : mP} (hM : kM kd P m) (h : I m 16 = nI 0) : Ct yX10_isGood cX10_isGood 1 (some .boolean) 1 0 0 [.ref m] n kd I J P (am_is (some (.int (nI 1))) n kd I J P) := by
  refine ct_of 0 (by decide +kernel) (Nat.le_of_ble_eq_true rfl) rfl ?_
  refine r_aload_n dX10_isGood_0 rfl ?_
  refine r_getI dX10_isGood_1 fl_X10_249 rfl (kM_0 hM) ?_
  rw [h]
  refine r_if_ne (tgt := 11) dX10_isGood_4 (by decide) (fun hz => absurd (show _ from rfl) hz) (fun _ => ?_)
  refine r_iconst (v := nI 1) dX10_isGood_7 (by decide) ?_
  refine r_goto (tgt := 12) dX10_isGood_8 (by decide) ?_
  refine r_zret rfl dX10_isGood_12 (by first | exact Or.inl rfl | exact Or.inr rfl | assumption) ?_
  exact am_is.mk

theorem dX10_street_0 : decode cX10_street 0 = .ok (.aload_n 0, 1) := by decide +kernel
theorem dX10_street_1 : decode cX10_street 1 = .ok (.iconst 0, 1) := by decide +kernel
theorem dX10_street_2 : decode cX10_street 2 = .ok (.putfield 193, 3) := by decide +kernel
theorem dX10_street_5 : decode cX10_street 5 = .ok (.aload_n 0, 1) := by decide +kernel
theorem dX10_street_6 : decode cX10_street 6 = .ok (.iload_n 1, 1) := by decide +kernel
theorem dX10_street_7 : decode cX10_street 7 = .ok (.ifCond .lt 15, 3) := by decide +kernel
theorem dX10_street_10 : decode cX10_street 10 = .ok (.iload_n 1, 1) := by decide +kernel
theorem dX10_street_11 : decode cX10_street 11 = .ok (.aload_n 0, 1) := by decide +kernel
theorem dX10_street_12 : decode cX10_street 12 = .ok (.getfield 196, 3) := by decide +kernel
theorem dX10_street_15 : decode cX10_street 15 = .ok (.if_icmp .gt 7, 3) := by decide +kernel
theorem dX10_street_18 : decode cX10_street 18 = .ok (.iconst 1, 1) := by decide +kernel
theorem dX10_street_19 : decode cX10_street 19 = .ok (.goto 4, 3) := by decide +kernel
theorem dX10_street_22 : decode cX10_street 22 = .ok (.iconst 0, 1) := by decide +kernel
theorem dX10_street_23 : decode cX10_street 23 = .ok (.iconst 1, 1) := by decide +kernel
theorem dX10_street_24 : decode cX10_street 24 = .ok (.invokevirtual 343, 3) := by decide +kernel
theorem dX10_street_27 : decode cX10_street 27 = .ok (.ifCond .ne 5, 3) := by decide +kernel
theorem dX10_street_30 : decode cX10_street 30 = .ok (.iconst 0, 1) := by decide +kernel
theorem dX10_street_31 : decode cX10_street 31 = .ok (.ireturn, 1) := by decide +kernel
theorem dX10_street_32 : decode cX10_street 32 = .ok (.aload_n 0, 1) := by decide +kernel
theorem dX10_street_33 : decode cX10_street 33 = .ok (.iconst 0, 1) := by decide +kernel
theorem dX10_street_34 : decode cX10_street 34 = .ok (.putfield 196, 3) := by decide +kernel
theorem dX10_street_37 : decode cX10_street 37 = .ok (.aload_n 0, 1) := by decide +kernel
theorem dX10_street_38 : decode cX10_street 38 = .ok (.iconst (-1), 1) := by decide +kernel
theorem dX10_street_39 : decode cX10_street 39 = .ok (.putfield 47, 3) := by decide +kernel
theorem dX10_street_42 : decode cX10_street 42 = .ok (.aload_n 0, 1) := by decide +kernel
theorem dX10_street_43 : decode cX10_street 43 = .ok (.iconst 0, 1) := by decide +kernel
theorem dX10_street_44 : decode cX10_street 44 = .ok (.putfield 249, 3) := by decide +kernel
theorem dX10_street_47 : decode cX10_street 47 = .ok (.aload_n 0, 1) := by decide +kernel
theorem dX10_street_48 : decode cX10_street 48 = .ok (.iload_n 1, 1) := by decide +kernel
theorem dX10_street_49 : decode cX10_street 49 = .ok (.putfield 203, 3) := by decide +kernel
theorem dX10_street_52 : decode cX10_street 52 = .ok (.aload_n 0, 1) := by decide +kernel
theorem dX10_street_53 : decode cX10_street 53 = .ok (.iconst 0, 1) := by decide +kernel
theorem dX10_street_54 : decode cX10_street 54 = .ok (.putfield 206, 3) := by decide +kernel
theorem dX10_street_57 : decode cX10_street 57 = .ok (.aload_n 0, 1) := by decide +kernel
theorem dX10_street_58 : decode cX10_street 58 = .ok (.iconst 0, 1) := by decide +kernel
theorem dX10_street_59 : decode cX10_street 59 = .ok (.putfield 266, 3) := by decide +kernel
theorem dX10_street_62 : decode cX10_street 62 = .ok (.aload_n 0, 1) := by decide +kernel
theorem dX10_street_63 : decode cX10_street 63 = .ok (.bipush 9, 2) := by decide +kernel
theorem dX10_street_65 : decode cX10_street 65 = .ok (.putfield 331, 3) := by decide +kernel
theorem dX10_street_68 : decode cX10_street 68 = .ok (.aload_n 0, 1) := by decide +kernel
theorem dX10_street_69 : decode cX10_street 69 = .ok (.iconst 0, 1) := by decide +kernel
theorem dX10_street_70 : decode cX10_street 70 = .ok (.putfield 334, 3) := by decide +kernel
theorem dX10_street_73 : decode cX10_street 73 = .ok (.aload_n 0, 1) := by decide +kernel
theorem dX10_street_74 : decode cX10_street 74 = .ok (.iconst 0, 1) := by decide +kernel
theorem dX10_street_75 : decode cX10_street 75 = .ok (.putfield 327, 3) := by decide +kernel
theorem dX10_street_78 : decode cX10_street 78 = .ok (.aload_n 0, 1) := by decide +kernel
theorem dX10_street_79 : decode cX10_street 79 = .ok (.iconst 0, 1) := by decide +kernel
theorem dX10_street_80 : decode cX10_street 80 = .ok (.putfield 275, 3) := by decide +kernel
theorem dX10_street_83 : decode cX10_street 83 = .ok (.aload_n 0, 1) := by decide +kernel
theorem dX10_street_84 : decode cX10_street 84 = .ok (.invokevirtual 256, 3) := by decide +kernel
theorem dX10_street_87 : decode cX10_street 87 = .ok (.aload_n 0, 1) := by decide +kernel
theorem dX10_street_88 : decode cX10_street 88 = .ok (.invokevirtual 252, 3) := by decide +kernel
theorem dX10_street_91 : decode cX10_street 91 = .ok (.ifCond .eq 17, 3) := by decide +kernel
theorem dX10_street_94 : decode cX10_street 94 = .ok (.aload_n 0, 1) := by decide +kernel
theorem dX10_street_95 : decode cX10_street 95 = .ok (.getfield 226, 3) := by decide +kernel
theorem dX10_street_98 : decode cX10_street 98 = .ok (.ifCond .eq 10, 3) := by decide +kernel
theorem dX10_street_101 : decode cX10_street 101 = .ok (.aload_n 0, 1) := by decide +kernel
theorem dX10_street_102 : decode cX10_street 102 = .ok (.invokevirtual 347, 3) := by decide +kernel
theorem dX10_street_105 : decode cX10_street 105 = .ok (.goto (-18), 3) := by decide +kernel
theorem dX10_street_108 : decode cX10_street 108 = .ok (.aload_n 0, 1) := by decide +kernel
theorem dX10_street_109 : decode cX10_street 109 = .ok (.invokevirtual 252, 3) := by decide +kernel
theorem dX10_street_112 : decode cX10_street 112 = .ok (.ifCond .ne 18, 3) := by decide +kernel
theorem dX10_street_115 : decode cX10_street 115 = .ok (.aload_n 0, 1) := by decide +kernel
theorem dX10_street_116 : decode cX10_street 116 = .ok (.getfield 50, 3) := by decide +kernel
theorem dX10_street_119 : decode cX10_street 119 = .ok (.iconst 0, 1) := by decide +kernel
theorem dX10_street_120 : decode cX10_street 120 = .ok (.dup2, 1) := by decide +kernel
theorem dX10_street_121 : decode cX10_street 121 = .ok (.iaload, 1) := by decide +kernel
theorem dX10_street_122 : decode cX10_street 122 = .ok (.iconst 1, 1) := by decide +kernel
theorem dX10_street_123 : decode cX10_street 123 = .ok (.iadd, 1) := by decide +kernel
theorem dX10_street_124 : decode cX10_street 124 = .ok (.iastore, 1) := by decide +kernel
theorem dX10_street_125 : decode cX10_street 125 = .ok (.aload_n 0, 1) := by decide +kernel
theorem dX10_street_126 : decode cX10_street 126 = .ok (.getfield 249, 3) := by decide +kernel
theorem dX10_street_129 : decode cX10_street 129 = .ok (.ireturn, 1) := by decide +kernel
theorem dX10_street_130 : decode cX10_street 130 = .ok (.aload_n 0, 1) := by decide +kernel
theorem dX10_street_131 : decode cX10_street 131 = .ok (.aload_n 0, 1) := by decide +kernel
theorem dX10_street_132 : decode cX10_street 132 = .ok (.getfield 266, 3) := by decide +kernel
theorem dX10_street_135 : decode cX10_street 135 = .ok (.putfield 350, 3) := by decide +kernel
theorem dX10_street_138 : decode cX10_street 138 = .ok (.aload_n 0, 1) := by decide +kernel
theorem dX10_street_139 : decode cX10_street 139 = .ok (.aload_n 0, 1) := by decide +kernel
theorem dX10_street_140 : decode cX10_street 140 = .ok (.getfield 331, 3) := by decide +kernel
theorem dX10_street_143 : decode cX10_street 143 = .ok (.putfield 7, 3) := by decide +kernel
theorem dX10_street_146 : decode cX10_street 146 = .ok (.aload_n 0, 1) := by decide +kernel
theorem dX10_street_147 : decode cX10_street 147 = .ok (.aload_n 0, 1) := by decide +kernel
theorem dX10_street_148 : decode cX10_street 148 = .ok (.getfield 334, 3) := by decide +kernel
theorem dX10_street_151 : decode cX10_street 151 = .ok (.putfield 353, 3) := by decide +kernel
theorem dX10_street_154 : decode cX10_street 154 = .ok (.aload_n 0, 1) := by decide +kernel
theorem dX10_street_155 : decode cX10_street 155 = .ok (.aload_n 0, 1) := by decide +kernel
theorem dX10_street_156 : decode cX10_street 156 = .ok (.getfield 53, 3) := by decide +kernel
theorem dX10_street_159 : decode cX10_street 159 = .ok (.aload_n 0, 1) := by decide +kernel
theorem dX10_street_160 : decode cX10_street 160 = .ok (.getfield 13, 3) := by decide +kernel
theorem dX10_street_163 : decode cX10_street 163 = .ok (.invokevirtual 356, 3) := by decide +kernel
theorem dX10_street_166 : decode cX10_street 166 = .ok (.aload_n 0, 1) := by decide +kernel
theorem dX10_street_167 : decode cX10_street 167 = .ok (.aload_n 0, 1) := by decide +kernel
theorem dX10_street_168 : decode cX10_street 168 = .ok (.getfield 56, 3) := by decide +kernel
theorem dX10_street_171 : decode cX10_street 171 = .ok (.aload_n 0, 1) := by decide +kernel
theorem dX10_street_172 : decode cX10_street 172 = .ok (.getfield 17, 3) := by decide +kernel
theorem dX10_street_175 : decode cX10_street 175 = .ok (.invokevirtual 356, 3) := by decide +kernel
theorem dX10_street_178 : decode cX10_street 178 = .ok (.aload_n 0, 1) := by decide +kernel
theorem dX10_street_179 : decode cX10_street 179 = .ok (.aload_n 0, 1) := by decide +kernel
theorem dX10_street_180 : decode cX10_street 180 = .ok (.getfield 59, 3) := by decide +kernel
theorem dX10_street_183 : decode cX10_street 183 = .ok (.aload_n 0, 1) := by decide +kernel
theorem dX10_street_184 : decode cX10_street 184 = .ok (.getfield 20, 3) := by decide +kernel
theorem dX10_street_187 : decode cX10_street 187 = .ok (.invokevirtual 356, 3) := by decide +kernel
theorem dX10_street_190 : decode cX10_street 190 = .ok (.aload_n 0, 1) := by decide +kernel
theorem dX10_street_191 : decode cX10_street 191 = .ok (.aload_n 0, 1) := by decide +kernel
theorem dX10_street_192 : decode cX10_street 192 = .ok (.getfield 62, 3) := by decide +kernel
theorem dX10_street_195 : decode cX10_street 195 = .ok (.aload_n 0, 1) := by decide +kernel
theorem dX10_street_196 : decode cX10_street 196 = .ok (.getfield 26, 3) := by decide +kernel
theorem dX10_street_199 : decode cX10_street 199 = .ok (.invokevirtual 356, 3) := by decide +kernel
theorem dX10_street_202 : decode cX10_street 202 = .ok (.aload_n 0, 1) := by decide +kernel
theorem dX10_street_203 : decode cX10_street 203 = .ok (.aload_n 0, 1) := by decide +kernel
theorem dX10_street_204 : decode cX10_street 204 = .ok (.getfield 74, 3) := by decide +kernel
theorem dX10_street_207 : decode cX10_street 207 = .ok (.aload_n 0, 1) := by decide +kernel
theorem dX10_street_208 : decode cX10_street 208 = .ok (.getfield 32, 3) := by decide +kernel
theorem dX10_street_211 : decode cX10_street 211 = .ok (.invokevirtual 356, 3) := by decide +kernel
theorem dX10_street_214 : decode cX10_street 214 = .ok (.iconst 0, 1) := by decide +kernel
theorem dX10_street_215 : decode cX10_street 215 = .ok (.istore_n 2, 1) := by decide +kernel
theorem dX10_street_216 : decode cX10_street 216 = .ok (.iload_n 2, 1) := by decide +kernel
theorem dX10_street_217 : decode cX10_street 217 = .ok (.bipush 8, 2) := by decide +kernel
theorem dX10_street_219 : decode cX10_street 219 = .ok (.if_icmp .ge 28, 3) := by decide +kernel
theorem dX10_street_222 : decode cX10_street 222 = .ok (.aload_n 0, 1) := by decide +kernel
theorem dX10_street_223 : decode cX10_street 223 = .ok (.getfield 29, 3) := by decide +kernel
theorem dX10_street_226 : decode cX10_street 226 = .ok (.iload_n 2, 1) := by decide +kernel
theorem dX10_street_227 : decode cX10_street 227 = .ok (.aload_n 0, 1) := by decide +kernel
theorem dX10_street_228 : decode cX10_street 228 = .ok (.getfield 65, 3) := by decide +kernel
theorem dX10_street_231 : decode cX10_street 231 = .ok (.iload_n 2, 1) := by decide +kernel
theorem dX10_street_232 : decode cX10_street 232 = .ok (.iaload, 1) := by decide +kernel
theorem dX10_street_233 : decode cX10_street 233 = .ok (.iastore, 1) := by decide +kernel
theorem dX10_street_234 : decode cX10_street 234 = .ok (.aload_n 0, 1) := by decide +kernel
theorem dX10_street_235 : decode cX10_street 235 = .ok (.getfield 23, 3) := by decide +kernel
theorem dX10_street_238 : decode cX10_street 238 = .ok (.iload_n 2, 1) := by decide +kernel
theorem dX10_street_239 : decode cX10_street 239 = .ok (.iconst 0, 1) := by decide +kernel
theorem dX10_street_240 : decode cX10_street 240 = .ok (.iastore, 1) := by decide +kernel
theorem dX10_street_241 : decode cX10_street 241 = .ok (.iinc 2 1, 3) := by decide +kernel
theorem dX10_street_244 : decode cX10_street 244 = .ok (.goto (-28), 3) := by decide +kernel
theorem dX10_street_247 : decode cX10_street 247 = .ok (.iconst 0, 1) := by decide +kernel
theorem dX10_street_248 : decode cX10_street 248 = .ok (.istore_n 2, 1) := by decide +kernel
theorem dX10_street_249 : decode cX10_street 249 = .ok (.iload_n 2, 1) := by decide +kernel
theorem dX10_street_250 : decode cX10_street 250 = .ok (.iload_n 1, 1) := by decide +kernel
theorem dX10_street_251 : decode cX10_street 251 = .ok (.if_icmp .ge 21, 3) := by decide +kernel
theorem dX10_street_254 : decode cX10_street 254 = .ok (.aload_n 0, 1) := by decide +kernel
theorem dX10_street_255 : decode cX10_street 255 = .ok (.getfield 35, 3) := by decide +kernel
theorem dX10_street_258 : decode cX10_street 258 = .ok (.iload_n 2, 1) := by decide +kernel
theorem dX10_street_259 : decode cX10_street 259 = .ok (.aload_n 0, 1) := by decide +kernel
theorem dX10_street_260 : decode cX10_street 260 = .ok (.getfield 44, 3) := by decide +kernel
theorem dX10_street_263 : decode cX10_street 263 = .ok (.iload_n 2, 1) := by decide +kernel
theorem dX10_street_264 : decode cX10_street 264 = .ok (.iaload, 1) := by decide +kernel
theorem dX10_street_265 : decode cX10_street 265 = .ok (.iastore, 1) := by decide +kernel
theorem dX10_street_266 : decode cX10_street 266 = .ok (.iinc 2 1, 3) := by decide +kernel
theorem dX10_street_269 : decode cX10_street 269 = .ok (.goto (-20), 3) := by decide +kernel
theorem dX10_street_272 : decode cX10_street 272 = .ok (.aload_n 0, 1) := by decide +kernel
theorem dX10_street_273 : decode cX10_street 273 = .ok (.aload_n 0, 1) := by decide +kernel
theorem dX10_street_274 : decode cX10_street 274 = .ok (.getfield 68, 3) := by decide +kernel
theorem dX10_street_277 : decode cX10_street 277 = .ok (.aload_n 0, 1) := by decide +kernel
theorem dX10_street_278 : decode cX10_street 278 = .ok (.getfield 38, 3) := by decide +kernel
theorem dX10_street_281 : decode cX10_street 281 = .ok (.invokevirtual 356, 3) := by decide +kernel
theorem dX10_street_284 : decode cX10_street 284 = .ok (.aload_n 0, 1) := by decide +kernel
theorem dX10_street_285 : decode cX10_street 285 = .ok (.aload_n 0, 1) := by decide +kernel
theorem dX10_street_286 : decode cX10_street 286 = .ok (.getfield 71, 3) := by decide +kernel
theorem dX10_street_289 : decode cX10_street 289 = .ok (.aload_n 0, 1) := by decide +kernel
theorem dX10_street_290 : decode cX10_street 290 = .ok (.getfield 41, 3) := by decide +kernel
theorem dX10_street_293 : decode cX10_street 293 = .ok (.invokevirtual 356, 3) := by decide +kernel
theorem dX10_street_296 : decode cX10_street 296 = .ok (.aload_n 0, 1) := by decide +kernel
theorem dX10_street_297 : decode cX10_street 297 = .ok (.iconst (-1), 1) := by decide +kernel
theorem dX10_street_298 : decode cX10_street 298 = .ok (.putfield 139, 3) := by decide +kernel
theorem dX10_street_301 : decode cX10_street 301 = .ok (.aload_n 0, 1) := by decide +kernel
theorem dX10_street_302 : decode cX10_street 302 = .ok (.iconst 0, 1) := by decide +kernel
theorem dX10_street_303 : decode cX10_street 303 = .ok (.putfield 360, 3) := by decide +kernel
theorem dX10_street_306 : decode cX10_street 306 = .ok (.aload_n 0, 1) := by decide +kernel
theorem dX10_street_307 : decode cX10_street 307 = .ok (.iconst 0, 1) := by decide +kernel
theorem dX10_street_308 : decode cX10_street 308 = .ok (.putfield 363, 3) := by decide +kernel
theorem dX10_street_311 : decode cX10_street 311 = .ok (.aload_n 0, 1) := by decide +kernel
theorem dX10_street_312 : decode cX10_street 312 = .ok (.iconst 0, 1) := by decide +kernel
theorem dX10_street_313 : decode cX10_street 313 = .ok (.putfield 366, 3) := by decide +kernel
theorem dX10_street_316 : decode cX10_street 316 = .ok (.iconst 0, 1) := by decide +kernel
theorem dX10_street_317 : decode cX10_street 317 = .ok (.ireturn, 1) := by decide +kernel

set_option maxHeartbeats 4000000 in
set_option maxRecDepth 100000 in
theorem rs_loop (m : Nat) {n : Nat} {kd : mK} {I0 : mI} {J0 J : mJ} {P : mP} (hM : kM kd P m) (hJ : J (m + 56) = J0 (m + 56)) : ∀ (cnt i : Nat) (I : mI), i + cnt = 8 → I m 0 = nI 0 → Ru yX10_street.cls cX10_street 3 (some .int) yX10_street.name 3 (pR m n kd I0 J0 P (some (.int (nI 0))) 0) 0 0 216 [some (.ref m), some (.int (nI 0)), some (.int (nI i))] [] n kd I J P := by
  intro cnt
  induction cnt with
  | zero =>
    intro i I hi h0
    have ei : i = 8 := by omega
    subst ei
    refine r_iload_n dX10_street_216 rfl ?_
    refine r_bipush (v := nI 8) dX10_street_217 (by decide) ?_
    refine r_icmp_ge (tgt := 247) dX10_street_219 (by decide) (fun _ => ?_) (fun hz => absurd (show _ from (by decide)) hz)
    refine r_iconst (v := nI 0) dX10_street_247 (by decide) ?_
    refine r_istore_n dX10_street_248 (by decide) ?_
    refine r_iload_n dX10_street_249 rfl ?_
    refine r_iload_n dX10_street_250 rfl ?_
    refine r_icmp_ge (tgt := 272) dX10_street_251 (by decide) (fun _ => ?_) (fun hz => absurd (show _ from (by decide)) hz)
    refine r_aload_n dX10_street_272 rfl ?_
    refine r_aload_n dX10_street_273 rfl ?_
    refine r_getR dX10_street_274 fl_X10_68 rfl (kM_0 hM) (pM_40 hM) ?_
    refine r_aload_n dX10_street_277 rfl ?_
    refine r_getR dX10_street_278 fl_X10_38 rfl (kM_0 hM) (pM_12 hM) ?_
    refine r_virtV (c_X10_copies m (m + 18) (m + 9) 8 8 (aM_40 hM) (aM_12 hM) (by omega) (by decide) (by decide) (by decide)) lk_X10_356 mc_X10_copies dX10_street_281 hM.1 (by decide) rfl rfl (Nat.le_of_ble_eq_true rfl) ?_
    refine r_aload_n dX10_street_284 rfl ?_
    refine r_aload_n dX10_street_285 rfl ?_
    refine r_getR dX10_street_286 fl_X10_71 rfl (kM_0 hM) (pM_41 hM) ?_
    refine r_aload_n dX10_street_289 rfl ?_
    refine r_getR dX10_street_290 fl_X10_41 rfl (kM_0 hM) (pM_13 hM) ?_
    refine r_virtV (c_X10_copies m (m + 19) (m + 10) 8 8 (aM_41 hM) (aM_13 hM) (by omega) (by decide) (by decide) (by decide)) lk_X10_356 mc_X10_copies dX10_street_293 hM.1 (by decide) rfl rfl (Nat.le_of_ble_eq_true rfl) ?_
    refine r_aload_n dX10_street_296 rfl ?_
    refine r_iconst (v := (-1)) dX10_street_297 (by decide) ?_
    refine r_putI dX10_street_298 fl_X10_139 rfl rfl (kM_0 hM) ?_
    refine r_aload_n dX10_street_301 rfl ?_
    refine r_iconst (v := nI 0) dX10_street_302 (by decide) ?_
    refine r_putI dX10_street_303 fl_X10_360 rfl rfl (kM_0 hM) ?_
    refine r_aload_n dX10_street_306 rfl ?_
    refine r_iconst (v := nI 0) dX10_street_307 (by decide) ?_
    refine r_putI dX10_street_308 fl_X10_363 rfl rfl (kM_0 hM) ?_
    refine r_aload_n dX10_street_311 rfl ?_
    refine r_iconst (v := nI 0) dX10_street_312 (by decide) ?_
    refine r_putZ dX10_street_313 fl_X10_366 rfl rfl (by first | exact Or.inl rfl | exact Or.inr rfl | assumption) (kM_0 hM) ?_
    refine r_iconst (v := nI 0) dX10_street_316 (by decide) ?_
    refine r_iret rfl dX10_street_317 ?_
    refine ⟨rfl, rfl, rfl, rfl, ?_, hJ⟩
    simp (disch := omega) only [am_up_s, am_up_n]
    exact h0
  | succ cnt ih =>
    intro i I hi h0
    refine r_iload_n dX10_street_216 rfl ?_
    refine r_bipush (v := nI 8) dX10_street_217 (by decide) ?_
    refine r_icmp_ge (tgt := 247) dX10_street_219 (by decide) (fun hz => absurd hz (show ¬ _ from (by rw [nI_leI (by omega) (by omega)]; omega))) (fun _ => ?_)
    refine r_aload_n dX10_street_222 rfl ?_
    refine r_getR dX10_street_223 fl_X10_29 rfl (kM_0 hM) (pM_9 hM) ?_
    refine r_iload_n dX10_street_226 rfl ?_
    refine r_aload_n dX10_street_227 rfl ?_
    refine r_getR dX10_street_228 fl_X10_65 rfl (kM_0 hM) (pM_39 hM) ?_
    refine r_iload_n dX10_street_231 rfl ?_
    refine r_iald dX10_street_232 (aM_39 hM) (nI_in8 8 (by omega) (by decide)) (nI_clamp (by omega)) ?_
    refine r_iast dX10_street_233 (aM_9 hM) (nI_in8 8 (by omega) (by decide)) (nI_clamp (by omega)) ?_
    refine r_aload_n dX10_street_234 rfl ?_
    refine r_getR dX10_street_235 fl_X10_23 rfl (kM_0 hM) (pM_7 hM) ?_
    refine r_iload_n dX10_street_238 rfl ?_
    refine r_iconst (v := nI 0) dX10_street_239 (by decide) ?_
    refine r_iast dX10_street_240 (aM_7 hM) (nI_in8 8 (by omega) (by decide)) (nI_clamp (by omega)) ?_
    refine r_iinc (v := nI (i + 1)) dX10_street_241 rfl (nI_inc i) ?_
    refine r_goto (tgt := 216) dX10_street_244 (by decide) ?_
    exact ih (i + 1) _ (by omega) (by rw [am_up_n _ _ (by omega), am_up_n _ _ (by omega)]; exact h0)

set_option maxHeartbeats 4000000 in
set_option maxRecDepth 100000 in
theorem rs_mid (m : Nat) {n : Nat} {kd : mK} {I : mI} {J : mJ} {P : mP} {I0 : mI} {J0 : mJ} (hM : kM kd P m) (h0 : I m 0 = nI 0) (h20 : I m 20 = nI 0) (h19 : I m 19 = nI 0) (hfk : I m 16 = nI 0) (hJ : J (m + 56) = J0 (m + 56)) (hun : I m 33 = 0 ∨ I m 33 = 1) : Ru yX10_street.cls cX10_street 3 (some .int) yX10_street.name 3 (pR m n kd I0 J0 P (some (.int (nI 0))) 0) 0 0 83 [some (.ref m), some (.int (nI 0)), none] [] n kd I J P := by
  refine r_aload_n dX10_street_83 rfl ?_
  refine r_virt (c_goes0 m hM h20 h19) lk_X10_256 mc_X10_goes dX10_street_84 hM.1 (by decide) rfl rfl (Nat.le_of_ble_eq_true rfl) (Nat.le_of_eq (Nat.zero_add _)) (Nat.le_of_eq (Nat.zero_add _)) (fun _ _ _ _ _ _ h => nomatch h.1) ?_
  rintro v n1 kd1 I1 J1 P1 ⟨q0, rfl, rfl, rfl, hf, hs, hk⟩
  cases q0
  simp only [Option.toList, List.nil_append]
  have hfk1 : I1 m 16 = nI 0 := (hk _ (by decide) (by decide) (by decide) (by decide) (by decide)).trans hfk
  have h01 : I1 m 0 = nI 0 := (hk _ (by decide) (by decide) (by decide) (by decide) (by decide)).trans h0
  have hJ1 : J1 (m + 56) = J0 (m + 56) := (hf (m + 56) (by omega)).1.trans hJ
  refine r_aload_n dX10_street_87 rfl ?_
  refine r_virtE (c_good0 m hM hfk1) lk_X10_252 mc_X10_isGood dX10_street_88 hM.1 (by decide) rfl rfl (Nat.le_of_ble_eq_true rfl) ?_
  refine r_if_eq (tgt := 108) dX10_street_91 (by decide) (fun hz => absurd hz (show ¬ _ from (by decide))) (fun _ => ?_)
  refine r_aload_n dX10_street_94 rfl ?_
  refine r_getI dX10_street_95 fl_X10_226 rfl (kM_0 hM) ?_
  rw [hs]
  refine r_if_eq (tgt := 108) dX10_street_98 (by decide) (fun _ => ?_) (fun hz => absurd (show _ from rfl) hz)
  refine r_aload_n dX10_street_108 rfl ?_
  refine r_virtE (c_good0 m hM hfk1) lk_X10_252 mc_X10_isGood dX10_street_109 hM.1 (by decide) rfl rfl (Nat.le_of_ble_eq_true rfl) ?_
  refine r_if_ne (tgt := 130) dX10_street_112 (by decide) (fun _ => ?_) (fun hz => absurd hz (show ¬ _ from (by decide)))
  refine r_aload_n dX10_street_130 rfl ?_
  refine r_aload_n dX10_street_131 rfl ?_
  refine r_getI dX10_street_132 fl_X10_266 rfl (kM_0 hM) ?_
  refine r_putI dX10_street_135 fl_X10_350 rfl rfl (kM_0 hM) ?_
  refine r_aload_n dX10_street_138 rfl ?_
  refine r_aload_n dX10_street_139 rfl ?_
  refine r_getI dX10_street_140 fl_X10_331 rfl (kM_0 hM) ?_
  refine r_putI dX10_street_143 fl_X10_7 rfl rfl (kM_0 hM) ?_
  refine r_aload_n dX10_street_146 rfl ?_
  refine r_aload_n dX10_street_147 rfl ?_
  generalize hb : va_up (va_up I1 m (va_up (I1 m) 1 (I1 m 27))) m (va_up (va_up I1 m (va_up (I1 m) 1 (I1 m 27)) m) 2 (va_up I1 m (va_up (I1 m) 1 (I1 m 27)) m 28)) = I2
  have h02 : I2 m 0 = nI 0 := by rw [← hb, am_up_s, am_up_n _ _ (by decide), am_up_s, am_up_n _ _ (by decide)]; exact h01
  have hun2 : I2 m 33 = 0 ∨ I2 m 33 = 1 := by rw [← hb, am_up_s, am_up_n _ _ (by decide), am_up_s, am_up_n _ _ (by decide), hk _ (by decide) (by decide) (by decide) (by decide) (by decide)]; exact hun
  refine r_getI dX10_street_148 fl_X10_334 rfl (kM_0 hM) ?_
  refine r_putZ dX10_street_151 fl_X10_353 rfl rfl hun2 (kM_0 hM) ?_
  refine r_aload_n dX10_street_154 rfl ?_
  refine r_aload_n dX10_street_155 rfl ?_
  refine r_getR dX10_street_156 fl_X10_53 rfl (kM_0 hM) (pM_35 hM) ?_
  refine r_aload_n dX10_street_159 rfl ?_
  refine r_getR dX10_street_160 fl_X10_13 rfl (kM_0 hM) (pM_4 hM) ?_
  refine r_virtV (c_X10_copies m (m + 13) (m + 1) 8 8 (aM_35 hM) (aM_4 hM) (by omega) (by decide) (by decide) (by decide)) lk_X10_356 mc_X10_copies dX10_street_163 hM.1 (by decide) rfl rfl (Nat.le_of_ble_eq_true rfl) ?_
  refine r_aload_n dX10_street_166 rfl ?_
  refine r_aload_n dX10_street_167 rfl ?_
  refine r_getR dX10_street_168 fl_X10_56 rfl (kM_0 hM) (pM_36 hM) ?_
  refine r_aload_n dX10_street_171 rfl ?_
  refine r_getR dX10_street_172 fl_X10_17 rfl (kM_0 hM) (pM_5 hM) ?_
  refine r_virtV (c_X10_copies m (m + 14) (m + 2) 8 8 (aM_36 hM) (aM_5 hM) (by omega) (by decide) (by decide) (by decide)) lk_X10_356 mc_X10_copies dX10_street_175 hM.1 (by decide) rfl rfl (Nat.le_of_ble_eq_true rfl) ?_
  refine r_aload_n dX10_street_178 rfl ?_
  refine r_aload_n dX10_street_179 rfl ?_
  refine r_getR dX10_street_180 fl_X10_59 rfl (kM_0 hM) (pM_37 hM) ?_
  refine r_aload_n dX10_street_183 rfl ?_
  refine r_getR dX10_street_184 fl_X10_20 rfl (kM_0 hM) (pM_6 hM) ?_
  refine r_virtV (c_X10_copies m (m + 15) (m + 3) 8 8 (aM_37 hM) (aM_6 hM) (by omega) (by decide) (by decide) (by decide)) lk_X10_356 mc_X10_copies dX10_street_187 hM.1 (by decide) rfl rfl (Nat.le_of_ble_eq_true rfl) ?_
  refine r_aload_n dX10_street_190 rfl ?_
  refine r_aload_n dX10_street_191 rfl ?_
  refine r_getR dX10_street_192 fl_X10_62 rfl (kM_0 hM) (pM_38 hM) ?_
  refine r_aload_n dX10_street_195 rfl ?_
  refine r_getR dX10_street_196 fl_X10_26 rfl (kM_0 hM) (pM_8 hM) ?_
  refine r_virtV (c_X10_copies m (m + 16) (m + 5) 8 8 (aM_38 hM) (aM_8 hM) (by omega) (by decide) (by decide) (by decide)) lk_X10_356 mc_X10_copies dX10_street_199 hM.1 (by decide) rfl rfl (Nat.le_of_ble_eq_true rfl) ?_
  refine r_aload_n dX10_street_202 rfl ?_
  refine r_aload_n dX10_street_203 rfl ?_
  refine r_getR dX10_street_204 fl_X10_74 rfl (kM_0 hM) (pM_42 hM) ?_
  refine r_aload_n dX10_street_207 rfl ?_
  refine r_getR dX10_street_208 fl_X10_32 rfl (kM_0 hM) (pM_10 hM) ?_
  refine r_virtV (c_X10_copies m (m + 20) (m + 7) 1300 1300 (aM_42 hM) (aM_10 hM) (by omega) (by decide) (by decide) (by decide)) lk_X10_356 mc_X10_copies dX10_street_211 hM.1 (by decide) rfl rfl (Nat.le_of_ble_eq_true rfl) ?_
  refine r_iconst (v := nI 0) dX10_street_214 (by decide) ?_
  refine r_istore_n dX10_street_215 (by decide) ?_
  exact rs_loop m hM hJ1 8 0 _ (by omega) (by simp (disch := omega) only [am_up_s, am_up_n]; exact h02)

set_option maxHeartbeats 4000000 in
set_option maxRecDepth 100000 in
theorem q_street_0 (m : Nat) {n : Nat} {kd : mK} {I : mI} {J : mJ} {P : mP} (hF : fsM m kd I J P) : Ct yX10_street cX10_street 3 (some .int) 3 0 0 [.ref m, .int (nI 0)] n kd I J P (pR m n kd I J P (some (.int (nI 0))) 0) := by
  have hM := hF.1
  have hm := hF.2.1
  refine ct_of 1 (by decide +kernel) (Nat.le_of_ble_eq_true rfl) rfl ?_
  refine r_aload_n dX10_street_0 rfl ?_
  refine r_iconst (v := nI 0) dX10_street_1 (by decide) ?_
  refine r_putI dX10_street_2 fl_X10_193 rfl rfl (kM_0 hM) ?_
  rw [hF.th]
  refine r_aload_n dX10_street_5 rfl ?_
  refine r_iload_n dX10_street_6 rfl ?_
  refine r_if_lt (tgt := 22) dX10_street_7 (by decide) (fun hz => absurd hz (show ¬ _ from (by decide))) (fun _ => ?_)
  refine r_iload_n dX10_street_10 rfl ?_
  refine r_aload_n dX10_street_11 rfl ?_
  refine r_getI dX10_street_12 fl_X10_196 rfl (kM_0 hM) ?_
  rw [show I m 15 = nI 0 from by rw [hm]; rfl]
  refine r_icmp_gt (tgt := 22) dX10_street_15 (by decide) (fun hz => absurd hz (show ¬ _ from (by decide))) (fun _ => ?_)
  refine r_iconst (v := nI 1) dX10_street_18 (by decide) ?_
  refine r_goto (tgt := 23) dX10_street_19 (by decide) ?_
  refine r_iconst (v := nI 1) dX10_street_23 (by decide) ?_
  refine r_virtE (c_X10_right m true (nI 1) hM (by rw [hm]; rfl) (by decide)) lk_X10_343 mc_X10_right dX10_street_24 hM.1 (by decide) rfl rfl (Nat.le_of_ble_eq_true rfl) ?_
  rw [thM_ok]
  refine r_if_ne (tgt := 32) dX10_street_27 (by decide) (fun _ => ?_) (fun hz => absurd hz (show ¬ _ from (by decide)))
  refine r_aload_n dX10_street_32 rfl ?_
  refine r_iconst (v := nI 0) dX10_street_33 (by decide) ?_
  refine r_putI dX10_street_34 fl_X10_196 rfl rfl (kM_0 hM) ?_
  refine r_aload_n dX10_street_37 rfl ?_
  refine r_iconst (v := (-1)) dX10_street_38 (by decide) ?_
  refine r_putI dX10_street_39 fl_X10_47 rfl rfl (kM_0 hM) ?_
  rw [am_up_s, am_up_up]
  refine r_aload_n dX10_street_42 rfl ?_
  refine r_iconst (v := nI 0) dX10_street_43 (by decide) ?_
  refine r_putI dX10_street_44 fl_X10_249 rfl rfl (kM_0 hM) ?_
  rw [am_up_s, am_up_up]
  refine r_aload_n dX10_street_47 rfl ?_
  refine r_iload_n dX10_street_48 rfl ?_
  refine r_putI dX10_street_49 fl_X10_203 rfl rfl (kM_0 hM) ?_
  rw [am_up_s, am_up_up]
  refine r_aload_n dX10_street_52 rfl ?_
  refine r_iconst (v := nI 0) dX10_street_53 (by decide) ?_
  refine r_putI dX10_street_54 fl_X10_206 rfl rfl (kM_0 hM) ?_
  rw [am_up_s, am_up_up]
  refine r_aload_n dX10_street_57 rfl ?_
  refine r_iconst (v := nI 0) dX10_street_58 (by decide) ?_
  refine r_putI dX10_street_59 fl_X10_266 rfl rfl (kM_0 hM) ?_
  rw [am_up_s, am_up_up]
  refine r_aload_n dX10_street_62 rfl ?_
  refine r_bipush (v := nI 9) dX10_street_63 (by decide) ?_
  refine r_putI dX10_street_65 fl_X10_331 rfl rfl (kM_0 hM) ?_
  rw [am_up_s, am_up_up]
  refine r_aload_n dX10_street_68 rfl ?_
  refine r_iconst (v := nI 0) dX10_street_69 (by decide) ?_
  refine r_putZ dX10_street_70 fl_X10_334 rfl rfl (by first | exact Or.inl rfl | exact Or.inr rfl | assumption) (kM_0 hM) ?_
  rw [am_up_s, am_up_up]
  refine r_aload_n dX10_street_73 rfl ?_
  refine r_iconst (v := nI 0) dX10_street_74 (by decide) ?_
  refine r_putZ dX10_street_75 fl_X10_327 rfl rfl (by first | exact Or.inl rfl | exact Or.inr rfl | assumption) (kM_0 hM) ?_
  rw [am_up_s, am_up_up]
  refine r_aload_n dX10_street_78 rfl ?_
  refine r_iconst (v := nI 0) dX10_street_79 (by decide) ?_
  refine r_putI dX10_street_80 fl_X10_275 rfl rfl (kM_0 hM) ?_
  rw [am_up_s, am_up_up]
  exact rs_mid m hM (by simp (disch := decide) only [am_up_s, am_up_n]; rw [hm]; rfl) (by simp (disch := decide) only [am_up_s, am_up_n]) (by simp (disch := decide) only [am_up_s, am_up_n]) (by simp (disch := decide) only [am_up_s, am_up_n]) rfl (Or.inl (by simp (disch := decide) only [am_up_s, am_up_n]; rfl))

set_option maxHeartbeats 4000000 in
set_option maxRecDepth 100000 in
theorem q_street_no (m : Nat) (x : Int32) {n : Nat} {kd : mK} {I : mI} {J : mJ} {P : mP} (hF : fsM m kd I J P) (hx : ¬ x = 0) : Ct yX10_street cX10_street 3 (some .int) 3 0 0 [.ref m, .int x] n kd I J P (pR m n kd I J P (some (.int (nI 0))) 1) := by
  have hM := hF.1
  have hm := hF.2.1
  have hx2 : ¬ x < 0 → nI 0 < x := fun h1 => by
    rw [Int32.lt_iff_toInt_lt, show (0 : Int32).toInt = 0 from by decide] at h1
    rw [Int32.lt_iff_toInt_lt, show (nI 0).toInt = 0 from by decide]
    have : ¬ x.toInt = 0 := fun q => hx (Int32.toInt_inj.mp q)
    omega
  refine ct_of 1 (by decide +kernel) (Nat.le_of_ble_eq_true rfl) rfl ?_
  refine r_aload_n dX10_street_0 rfl ?_
  refine r_iconst (v := nI 0) dX10_street_1 (by decide) ?_
  refine r_putI dX10_street_2 fl_X10_193 rfl rfl (kM_0 hM) ?_
  rw [hF.th]
  refine r_aload_n dX10_street_5 rfl ?_
  refine r_iload_n dX10_street_6 rfl ?_
  refine r_if_lt (tgt := 22) dX10_street_7 (by decide) (fun h7 => ?_) (fun h7 => ?_)
  · skip
    refine r_iconst (v := nI 0) dX10_street_22 (by decide) ?_
    refine r_iconst (v := nI 1) dX10_street_23 (by decide) ?_
    refine r_virtE (c_X10_right m false (nI 1) hM (by rw [hm]; rfl) (by decide)) lk_X10_343 mc_X10_right dX10_street_24 hM.1 (by decide) rfl rfl (Nat.le_of_ble_eq_true rfl) ?_
    refine r_if_ne (tgt := 32) dX10_street_27 (by decide) (fun hz => absurd (show _ from rfl) hz) (fun _ => ?_)
    refine r_iconst (v := nI 0) dX10_street_30 (by decide) ?_
    refine r_iret rfl dX10_street_31 ?_
    refine ⟨rfl, rfl, rfl, rfl, ?_, rfl⟩
    simp only [thM, am_up_s, Bool.false_eq_true, if_false]
  · skip
    refine r_iload_n dX10_street_10 rfl ?_
    refine r_aload_n dX10_street_11 rfl ?_
    refine r_getI dX10_street_12 fl_X10_196 rfl (kM_0 hM) ?_
    rw [show I m 15 = nI 0 from by rw [hm]; rfl]
    refine r_icmp_gt (tgt := 22) dX10_street_15 (by decide) (fun _ => ?_) (fun hz => absurd (show _ from (hx2 h7)) hz)
    refine r_iconst (v := nI 0) dX10_street_22 (by decide) ?_
    refine r_iconst (v := nI 1) dX10_street_23 (by decide) ?_
    refine r_virtE (c_X10_right m false (nI 1) hM (by rw [hm]; rfl) (by decide)) lk_X10_343 mc_X10_right dX10_street_24 hM.1 (by decide) rfl rfl (Nat.le_of_ble_eq_true rfl) ?_
    refine r_if_ne (tgt := 32) dX10_street_27 (by decide) (fun hz => absurd (show _ from rfl) hz) (fun _ => ?_)
    refine r_iconst (v := nI 0) dX10_street_30 (by decide) ?_
    refine r_iret rfl dX10_street_31 ?_
    refine ⟨rfl, rfl, rfl, rfl, ?_, rfl⟩
    simp only [thM, am_up_s, Bool.false_eq_true, if_false]


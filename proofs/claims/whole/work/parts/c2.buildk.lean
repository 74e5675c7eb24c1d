/-! BUILD: the class -/
def bldV (acc : Option (Int32 × Int32)) (w : Nat) : Int32 := match acc with
  | none => -2
  | some (g, v) => if w = 0 then g else v
theorem nwS_of {I I1 I2 : mI} {b s H M : Nat} {un : Bool} {cs : Nat → List Nat} {tx : Nat → List Int32} (hH : H < 8) (h0 : I2 s 0 = nI (H + 1)) (hj : ∀ j, j ≠ 0 → I2 s j = I1 s j) (k1 : I2 (s + 1) = va_up (I1 (s + 1)) H (nI 0)) (k2 : I2 (s + 2) = I1 (s + 2)) (k3 : I2 (s + 3) = va_up (I1 (s + 3)) H (I1 s 6)) (k4 : I2 (s + 4) = va_up (I1 (s + 4)) H (I1 s 6)) (c1 : I1 s 1 = I b 1) (c2 : I1 s 2 = I b 2) (c3 : I1 s 3 = I b 3) (c6 : I1 s 6 = I b 6) (cr : ∀ j, j < 8 → I1 (s + 1) j = I (b + 1) j ∧ I1 (s + 3) j = I (b + 3) j ∧ I1 (s + 4) j = I (b + 4) j) (cc : ∀ j, j < ofs cs H → I1 (s + 2) j = I (b + 2) j) (hS : cS I b H M un cs tx) : nwS I2 s H M un cs := by
  obtain ⟨⟨s0, s3, sh⟩, sM, su, s6, -⟩ := hS
  refine ⟨⟨h0, by rw [hj 1 (by decide), c1, sM], by rw [hj 2 (by decide), c2, su], by rw [k3, am_up_s, c6, s6]⟩, fun i hi hn => by rw [hj 3 (by decide), c3]; exact s3 i hi, fun x hx => ?_⟩
  obtain ⟨y1, y3, y4, yc⟩ := sh x hx
  have hr := cr x (by omega)
  refine ⟨by rw [k1, am_up_n _ _ (by omega), hr.1, y1], by rw [k3, am_up_n _ _ (by omega), hr.2.1, y3], by rw [k4, am_up_n _ _ (by omega), hr.2.2, y4], fun j hj2 => ?_⟩
  have hi := ofs_inn cs hx
  rw [k2, cc _ (by omega)]
  exact yc j hj2
theorem dX9_build_0 : decode cX9_build 0 = .ok (.aload_n 0, 1) := by decide +kernel
theorem dX9_build_1 : decode cX9_build 1 = .ok (.iload_n 1, 1) := by decide +kernel
theorem dX9_build_2 : decode cX9_build 2 = .ok (.iconst 2, 1) := by decide +kernel
theorem dX9_build_3 : decode cX9_build 3 = .ok (.invokevirtual 162, 3) := by decide +kernel
theorem dX9_build_6 : decode cX9_build 6 = .ok (.aload_n 0, 1) := by decide +kernel
theorem dX9_build_7 : decode cX9_build 7 = .ok (.getfield 27, 3) := by decide +kernel
theorem dX9_build_10 : decode cX9_build 10 = .ok (.getfield 124, 3) := by decide +kernel
theorem dX9_build_13 : decode cX9_build 13 = .ok (.bipush 8, 2) := by decide +kernel
theorem dX9_build_15 : decode cX9_build 15 = .ok (.if_icmp .lt 11, 3) := by decide +kernel
theorem dX9_build_18 : decode cX9_build 18 = .ok (.new 110, 3) := by decide +kernel
theorem dX9_build_21 : decode cX9_build 21 = .ok (.dup, 1) := by decide +kernel
theorem dX9_build_22 : decode cX9_build 22 = .ok (.invokespecial 112, 3) := by decide +kernel
theorem dX9_build_25 : decode cX9_build 25 = .ok (.athrow, 1) := by decide +kernel
theorem dX9_build_26 : decode cX9_build 26 = .ok (.aload_n 0, 1) := by decide +kernel
theorem dX9_build_27 : decode cX9_build 27 = .ok (.getfield 31, 3) := by decide +kernel
theorem dX9_build_30 : decode cX9_build 30 = .ok (.aload_n 0, 1) := by decide +kernel
theorem dX9_build_31 : decode cX9_build 31 = .ok (.getfield 27, 3) := by decide +kernel
theorem dX9_build_34 : decode cX9_build 34 = .ok (.invokevirtual 284, 3) := by decide +kernel
theorem dX9_build_37 : decode cX9_build 37 = .ok (.aload_n 0, 1) := by decide +kernel
theorem dX9_build_38 : decode cX9_build 38 = .ok (.getfield 31, 3) := by decide +kernel
theorem dX9_build_41 : decode cX9_build 41 = .ok (.invokevirtual 287, 3) := by decide +kernel
theorem dX9_build_44 : decode cX9_build 44 = .ok (.aload_n 0, 1) := by decide +kernel
theorem dX9_build_45 : decode cX9_build 45 = .ok (.getfield 41, 3) := by decide +kernel
theorem dX9_build_48 : decode cX9_build 48 = .ok (.aload_n 0, 1) := by decide +kernel
theorem dX9_build_49 : decode cX9_build 49 = .ok (.getfield 37, 3) := by decide +kernel
theorem dX9_build_52 : decode cX9_build 52 = .ok (.invokevirtual 264, 3) := by decide +kernel
theorem dX9_build_55 : decode cX9_build 55 = .ok (.aload_n 0, 1) := by decide +kernel
theorem dX9_build_56 : decode cX9_build 56 = .ok (.getfield 64, 3) := by decide +kernel
theorem dX9_build_59 : decode cX9_build 59 = .ok (.aload_n 0, 1) := by decide +kernel
theorem dX9_build_60 : decode cX9_build 60 = .ok (.getfield 31, 3) := by decide +kernel
theorem dX9_build_63 : decode cX9_build 63 = .ok (.aload_n 0, 1) := by decide +kernel
theorem dX9_build_64 : decode cX9_build 64 = .ok (.getfield 41, 3) := by decide +kernel
theorem dX9_build_67 : decode cX9_build 67 = .ok (.invokevirtual 290, 3) := by decide +kernel
theorem dX9_build_70 : decode cX9_build 70 = .ok (.ifCond .ne 6, 3) := by decide +kernel
theorem dX9_build_73 : decode cX9_build 73 = .ok (.bipush (-2), 2) := by decide +kernel
theorem dX9_build_75 : decode cX9_build 75 = .ok (.ireturn, 1) := by decide +kernel
theorem dX9_build_76 : decode cX9_build 76 = .ok (.iload_n 1, 1) := by decide +kernel
theorem dX9_build_77 : decode cX9_build 77 = .ok (.ifCond .ne 13, 3) := by decide +kernel
theorem dX9_build_80 : decode cX9_build 80 = .ok (.aload_n 0, 1) := by decide +kernel
theorem dX9_build_81 : decode cX9_build 81 = .ok (.getfield 64, 3) := by decide +kernel
theorem dX9_build_84 : decode cX9_build 84 = .ok (.getfield 294, 3) := by decide +kernel
theorem dX9_build_87 : decode cX9_build 87 = .ok (.goto 10, 3) := by decide +kernel
theorem dX9_build_90 : decode cX9_build 90 = .ok (.aload_n 0, 1) := by decide +kernel
theorem dX9_build_91 : decode cX9_build 91 = .ok (.getfield 64, 3) := by decide +kernel
theorem dX9_build_94 : decode cX9_build 94 = .ok (.getfield 297, 3) := by decide +kernel
theorem dX9_build_97 : decode cX9_build 97 = .ok (.ireturn, 1) := by decide +kernel

set_option maxHeartbeats 4000000 in
set_option maxRecDepth 100000 in
theorem k_build_no1 (o b s f l : Nat) (y : Int32) {t : Nat} {T : Nat → Nat} {fp : Int32} {rr : Nat → Int32} {H M : Nat} {un : Bool} {cs : Nat → List Nat} {tx : Nat → List Int32} {e : Lf} {im : Option Lf} {wk : Option (List Nat)} {n : Nat} {kd : mK} {I : mI} {J : mJ} {P : mP} (hC : CR o b s f l n kd I J P t T fp rr H M un cs tx e im wk) (hz : okZ t T H M cs e) (hy : (!decide (y < 0) && decide (y < nI 2)) = false) : Ct yX9_build cX9_build 2 (some .int) 10 1 6 [.ref o, .int y] n kd I J P (fun z n' kd' I' J' P' => z = .inr "java/util/NoSuchElementException" ∧ n' = n ∧ kd' = kd ∧ I' = I ∧ J' = J ∧ P' = P) := by
  obtain ⟨hX, hsc, hT, hSt, hLf, hIm, hWk, hQc, hPc⟩ := hC
  obtain ⟨okt, oks, okl⟩ := hz
  have hS := hX.S
  have hL := hX.L
  have hat := hX.at
  have hH8 : H ≤ 8 := oks.2.1
  have hM20 : 2 ≤ M ∧ M ≤ 20 := oks.1
  have hH : I b 0 = nI H := hSt.1.1
  have hMo : I b 1 = nI M := hSt.2.1
  obtain ⟨⟨x0, x1, x2⟩, -, ⟨-, -, hLk⟩, ⟨hQ, hA, hG, hW, hRd, hD, hPg⟩, ⟨p0, p3, p8, p10, p12, p13, p14, p15, p16, p17⟩, ⟨p4, p5, p6, p7⟩, -, -, -⟩ := id hX
  refine ct_of 0 (by decide +kernel) (Nat.le_of_ble_eq_true rfl) rfl ?_
  refine r_aload_n dX9_build_0 rfl ?_
  refine r_iload_n dX9_build_1 rfl ?_
  refine r_iconst (v := nI 2) dX9_build_2 (by decide) ?_
  have hc3 := c_X9_mustBeWhat (n := n) (kd := kd) (I := I) (J := J) (P := P) o (y) (nI 2)
  rw [hy] at hc3
  exact r_virtX hc3 lk_X9_162 mc_X9_mustBeWhat dX9_build_3 x0 (by decide) rfl rfl (Nat.le_of_ble_eq_true rfl) (by decide) (by decide) ⟨rfl, rfl, rfl, rfl, rfl, rfl⟩

set_option maxHeartbeats 4000000 in
set_option maxRecDepth 100000 in
theorem k_build_no2 (o b s f l : Nat) (w : Nat) {t : Nat} {T : Nat → Nat} {fp : Int32} {rr : Nat → Int32} {H M : Nat} {un : Bool} {cs : Nat → List Nat} {tx : Nat → List Int32} {e : Lf} {im : Option Lf} {wk : Option (List Nat)} {n : Nat} {kd : mK} {I : mI} {J : mJ} {P : mP} (hC : CR o b s f l n kd I J P t T fp rr H M un cs tx e im wk) (hz : okZ t T H M cs e) (hw2 : w < 2) (hH9 : 8 ≤ H) : Ct yX9_build cX9_build 2 (some .int) 10 1 6 [.ref o, .int (nI w)] n kd I J P (fun z n' kd' I' J' P' => z = .inr "java/lang/IllegalArgumentException" ∧ n' = n ∧ kd' = kd ∧ I' = I ∧ J' = J ∧ P' = P) := by
  obtain ⟨hX, hsc, hT, hSt, hLf, hIm, hWk, hQc, hPc⟩ := hC
  obtain ⟨okt, oks, okl⟩ := hz
  have hS := hX.S
  have hL := hX.L
  have hat := hX.at
  have hH8 : H ≤ 8 := oks.2.1
  have hM20 : 2 ≤ M ∧ M ≤ 20 := oks.1
  have hH : I b 0 = nI H := hSt.1.1
  have hMo : I b 1 = nI M := hSt.2.1
  obtain ⟨⟨x0, x1, x2⟩, -, ⟨-, -, hLk⟩, ⟨hQ, hA, hG, hW, hRd, hD, hPg⟩, ⟨p0, p3, p8, p10, p12, p13, p14, p15, p16, p17⟩, ⟨p4, p5, p6, p7⟩, -, -, -⟩ := id hX
  refine ct_of 0 (by decide +kernel) (Nat.le_of_ble_eq_true rfl) rfl ?_
  refine r_aload_n dX9_build_0 rfl ?_
  refine r_iload_n dX9_build_1 rfl ?_
  refine r_iconst (v := nI 2) dX9_build_2 (by decide) ?_
  refine r_virtV (m0_What o (nI w) (nI 2) (isH_of hw2 (by omega))) lk_X9_162 mc_X9_mustBeWhat dX9_build_3 x0 (by decide) rfl rfl (Nat.le_of_ble_eq_true rfl) ?_
  refine r_aload_n dX9_build_6 rfl ?_
  refine r_getR dX9_build_7 fl_X9_27 rfl (by assumption) (by assumption) ?_
  refine r_getI dX9_build_10 fl_X9_124 rfl hS.1 ?_
  rw [hH]
  refine r_bipush (v := nI 8) dX9_build_13 (by decide) ?_
  refine r_icmp_lt (tgt := 26) dX9_build_15 (by decide) (fun hz => absurd hz (show ¬ _ from (by rw [nI_ltI (by omega) (by omega)]; omega))) (fun _ => ?_)
  refine r_throw (cls := "java/lang/IllegalArgumentException") (names := ["java/lang/RuntimeException", "java/lang/Exception"]) dX9_build_18 dX9_build_21 dX9_build_22 dX9_build_25 (by decide +kernel) (by decide +kernel) cl_X9_110 xi_IllegalArgumentException xa_iae xb_iae (by decide) (Nat.le_of_ble_eq_true rfl) (by omega) (by omega) ?_
  exact ⟨rfl, rfl, rfl, rfl, rfl, rfl⟩

set_option maxHeartbeats 4000000 in
set_option maxRecDepth 100000 in
theorem k_build (o b s f l : Nat) (w : Nat) {t : Nat} {T : Nat → Nat} {fp : Int32} {rr : Nat → Int32} {H M : Nat} {un : Bool} {cs : Nat → List Nat} {tx : Nat → List Int32} {e : Lf} {im : Option Lf} {wk : Option (List Nat)} {n : Nat} {kd : mK} {I : mI} {J : mJ} {P : mP} (hC : CR o b s f l n kd I J P t T fp rr H M un cs tx e im wk) (hz : okZ t T H M cs e) (hw2 : w < 2) (hH7 : H < 8) : Ct yX9_build cX9_build 2 (some .int) 10 1 6 [.ref o, .int (nI w)] n kd I J P (pK o n kd I J P (.inl (some (.int (bldV (bAll (bR H M un cs e) H M) w)))) (CX o t T fp rr H M un cs tx e im wk)) := by
  have hC0 := hC
  have hz0 := hz
  obtain ⟨hX, hsc, hT, hSt, hLf, hIm, hWk, hQc, hPc⟩ := hC
  obtain ⟨okt, oks, okl⟩ := hz
  have hS := hX.S
  have hL := hX.L
  have hat := hX.at
  have hH8 : H ≤ 8 := oks.2.1
  have hM20 : 2 ≤ M ∧ M ≤ 20 := oks.1
  have hH : I b 0 = nI H := hSt.1.1
  have hMo : I b 1 = nI M := hSt.2.1
  obtain ⟨⟨x0, x1, x2⟩, -, ⟨-, -, hLk⟩, ⟨hQ, hA, hG, hW, hRd, hD, hPg⟩, ⟨p0, p3, p8, p10, p12, p13, p14, p15, p16, p17⟩, ⟨p4, p5, p6, p7⟩, -, -, -⟩ := id hX
  have hof : ofs cs H ≤ 500 := oks.2.2.1
  refine ct_of 0 (by decide +kernel) (Nat.le_of_ble_eq_true rfl) rfl ?_
  cases hq : bAll (bR H M un cs e) H M with
  | none =>
    rw [show bldV none w = -2 from rfl]
    refine r_aload_n dX9_build_0 rfl ?_
    refine r_iload_n dX9_build_1 rfl ?_
    refine r_iconst (v := nI 2) dX9_build_2 (by decide) ?_
    refine r_virtV (m0_What o (nI w) (nI 2) (isH_of hw2 (by omega))) lk_X9_162 mc_X9_mustBeWhat dX9_build_3 x0 (by decide) rfl rfl (Nat.le_of_ble_eq_true rfl) ?_
    refine r_aload_n dX9_build_6 rfl ?_
    refine r_getR dX9_build_7 fl_X9_27 rfl (by assumption) (by assumption) ?_
    refine r_getI dX9_build_10 fl_X9_124 rfl hS.1 ?_
    rw [hH]
    refine r_bipush (v := nI 8) dX9_build_13 (by decide) ?_
    refine r_icmp_lt (tgt := 26) dX9_build_15 (by decide) (fun _ => ?_) (fun hz => absurd (show _ from (by rw [nI_ltI (by omega) (by omega)]; omega)) hz)
    refine r_aload_n dX9_build_26 rfl ?_
    refine r_getR dX9_build_27 fl_X9_31 rfl (by assumption) (by assumption) ?_
    refine r_aload_n dX9_build_30 rfl ?_
    refine r_getR dX9_build_31 fl_X9_27 rfl (by assumption) (by assumption) ?_
    refine r_virt (kc2 := 0) (ks2 := 0) (c_X7_copy s b (ofs cs H) un hX.S2 hS (by omega) hSt.2.2.1 hSt.2.2.2.1 (by omega)) lk_X9_284 mc_X7_copy dX9_build_34 hX.S2.1 (by decide) rfl rfl (Nat.le_of_ble_eq_true rfl) (by decide) (by decide) (fun _ _ _ _ _ _ h => nomatch h.1) ?_
    rintro v1 n1 kd1 I1 J1 P1 ⟨h00, rfl, rfl, rfl, rfl, hf1, c0, c1, c2, c3, c6, -, cr, cc⟩
    cases h00
    simp only [Option.toList, List.nil_append]
    refine r_aload_n dX9_build_37 rfl ?_
    refine r_getR dX9_build_38 fl_X9_31 rfl (by assumption) (by assumption) ?_
    refine r_virt (kc2 := 0) (ks2 := 0) (c_addH s H hX.S2 (c0.trans hH) hH7) lk_X9_287 mc_X7_addHouse dX9_build_41 hX.S2.1 (by decide) rfl rfl (Nat.le_of_ble_eq_true rfl) (by decide) (by decide) (fun _ _ _ _ _ _ h => nomatch h.1) ?_
    rintro v2 n2 kd2 I2 J2 P2 ⟨h00, rfl, rfl, rfl, rfl, hf2, g0, gj, k1, k2, k3, k4⟩
    cases h00
    simp only [Option.toList, List.nil_append]
    have hn2 := nwS_of hH7 g0 gj k1 k2 k3 k4 c1 c2 c3 c6 cr cc hSt
    have hf12 : ∀ a, (a < s ∨ s + 9 < a) → I2 a = I a := fun a ha => by rw [hf2 a (by omega), hf1 a (by omega)]
    have hC2 := hC0.sp hf12
    have hB2 := Bs.sp (s := s) (by omega) hf12 (Bs.rf (o := o) (I := I) (J := J2) (P := P2))
    clear gj k1 k2 k3 k4 c1 c2 c3 c6 cr cc g0 c0
    refine r_aload_n dX9_build_44 rfl ?_
    refine r_getR dX9_build_45 fl_X9_41 rfl (by assumption) (by assumption) ?_
    refine r_aload_n dX9_build_48 rfl ?_
    refine r_getR dX9_build_49 fl_X9_37 rfl (by assumption) (by assumption) ?_
    refine r_virt (kc2 := 0) (ks2 := 0) (c_X2_copy l f hX.L2 hL (by omega)) lk_X9_264 mc_X2_copy dX9_build_52 hX.L2.1 (by decide) rfl rfl (Nat.le_of_ble_eq_true rfl) (by decide) (by decide) (fun _ _ _ _ _ _ h => nomatch h.1) ?_
    rintro v3 n3 kd3 I3 J3 P3 ⟨h00, rfl, rfl, rfl, rfl, hfr3, g0, g1, g3, g4⟩
    cases h00
    simp only [Option.toList, List.nil_append]
    have hC3 := hC2.tl hfr3
    have hB3 := Bs.tl (l := l) (by omega) hfr3 hB2
    have hcl3 := cL_copy hH8 okl g0 g1 g3 g4 hC2.2.2.2.2.1
    have hn3 := hn2.cg (I' := I3) (fun a a1 a2 => hfr3 a (by omega))
    refine r_aload_n dX9_build_55 rfl ?_
    refine r_getR dX9_build_56 fl_X9_64 rfl (by assumption) (by assumption) ?_
    refine r_aload_n dX9_build_59 rfl ?_
    refine r_getR dX9_build_60 fl_X9_31 rfl (by assumption) (by assumption) ?_
    refine r_aload_n dX9_build_63 rfl ?_
    refine r_getR dX9_build_64 fl_X9_41 rfl (by assumption) (by assumption) ?_
    refine r_virt (kc2 := 0) (ks2 := 0) (c_tryNewN o b s f l hC3 hz0 hB3 hcl3 hH7 hn3) lk_X9_290 mc_X0_tryNewRiddles dX9_build_67 hA.1 (by decide) rfl rfl (Nat.le_of_ble_eq_true rfl) (by decide) (by decide) (fun _ _ _ _ _ _ h => nomatch h.1) ?_
    rintro v4 n4 kd4 I4 J4 P4 ⟨h00, rfl, rfl, hC4, hB4, hcl4, hn4, hac⟩
    cases h00
    simp only [Option.toList, List.nil_append, List.cons_append]
    rw [hq] at hac ⊢
    obtain ⟨⟨y0, -, -⟩, -, -, ⟨-, hA4, -, -, -, -, -⟩, ⟨-, -, -, -, y12, -, -, -, -, -⟩, -, -, -, -⟩ := id hC4.1
    refine r_if_ne (tgt := 76) dX9_build_70 (by decide) (fun hz => absurd (show _ from rfl) hz) (fun _ => ?_)
    refine r_bipush (v := (-2)) dX9_build_73 (by decide) ?_
    refine r_iret rfl dX9_build_75 ?_
    exact pK.bs hB4 hC4
  | some gv =>
    obtain ⟨g, v⟩ := gv
    by_cases c8 : w = 0
    · skip
      refine r_aload_n dX9_build_0 rfl ?_
      refine r_iload_n dX9_build_1 rfl ?_
      refine r_iconst (v := nI 2) dX9_build_2 (by decide) ?_
      refine r_virtV (m0_What o (nI w) (nI 2) (isH_of hw2 (by omega))) lk_X9_162 mc_X9_mustBeWhat dX9_build_3 x0 (by decide) rfl rfl (Nat.le_of_ble_eq_true rfl) ?_
      refine r_aload_n dX9_build_6 rfl ?_
      refine r_getR dX9_build_7 fl_X9_27 rfl (by assumption) (by assumption) ?_
      refine r_getI dX9_build_10 fl_X9_124 rfl hS.1 ?_
      rw [hH]
      refine r_bipush (v := nI 8) dX9_build_13 (by decide) ?_
      refine r_icmp_lt (tgt := 26) dX9_build_15 (by decide) (fun _ => ?_) (fun hz => absurd (show _ from (by rw [nI_ltI (by omega) (by omega)]; omega)) hz)
      refine r_aload_n dX9_build_26 rfl ?_
      refine r_getR dX9_build_27 fl_X9_31 rfl (by assumption) (by assumption) ?_
      refine r_aload_n dX9_build_30 rfl ?_
      refine r_getR dX9_build_31 fl_X9_27 rfl (by assumption) (by assumption) ?_
      refine r_virt (kc2 := 0) (ks2 := 0) (c_X7_copy s b (ofs cs H) un hX.S2 hS (by omega) hSt.2.2.1 hSt.2.2.2.1 (by omega)) lk_X9_284 mc_X7_copy dX9_build_34 hX.S2.1 (by decide) rfl rfl (Nat.le_of_ble_eq_true rfl) (by decide) (by decide) (fun _ _ _ _ _ _ h => nomatch h.1) ?_
      rintro v1 n1 kd1 I1 J1 P1 ⟨h00, rfl, rfl, rfl, rfl, hf1, c0, c1, c2, c3, c6, -, cr, cc⟩
      cases h00
      simp only [Option.toList, List.nil_append]
      refine r_aload_n dX9_build_37 rfl ?_
      refine r_getR dX9_build_38 fl_X9_31 rfl (by assumption) (by assumption) ?_
      refine r_virt (kc2 := 0) (ks2 := 0) (c_addH s H hX.S2 (c0.trans hH) hH7) lk_X9_287 mc_X7_addHouse dX9_build_41 hX.S2.1 (by decide) rfl rfl (Nat.le_of_ble_eq_true rfl) (by decide) (by decide) (fun _ _ _ _ _ _ h => nomatch h.1) ?_
      rintro v2 n2 kd2 I2 J2 P2 ⟨h00, rfl, rfl, rfl, rfl, hf2, g0, gj, k1, k2, k3, k4⟩
      cases h00
      simp only [Option.toList, List.nil_append]
      have hn2 := nwS_of hH7 g0 gj k1 k2 k3 k4 c1 c2 c3 c6 cr cc hSt
      have hf12 : ∀ a, (a < s ∨ s + 9 < a) → I2 a = I a := fun a ha => by rw [hf2 a (by omega), hf1 a (by omega)]
      have hC2 := hC0.sp hf12
      have hB2 := Bs.sp (s := s) (by omega) hf12 (Bs.rf (o := o) (I := I) (J := J2) (P := P2))
      clear gj k1 k2 k3 k4 c1 c2 c3 c6 cr cc g0 c0
      refine r_aload_n dX9_build_44 rfl ?_
      refine r_getR dX9_build_45 fl_X9_41 rfl (by assumption) (by assumption) ?_
      refine r_aload_n dX9_build_48 rfl ?_
      refine r_getR dX9_build_49 fl_X9_37 rfl (by assumption) (by assumption) ?_
      refine r_virt (kc2 := 0) (ks2 := 0) (c_X2_copy l f hX.L2 hL (by omega)) lk_X9_264 mc_X2_copy dX9_build_52 hX.L2.1 (by decide) rfl rfl (Nat.le_of_ble_eq_true rfl) (by decide) (by decide) (fun _ _ _ _ _ _ h => nomatch h.1) ?_
      rintro v3 n3 kd3 I3 J3 P3 ⟨h00, rfl, rfl, rfl, rfl, hfr3, g0, g1, g3, g4⟩
      cases h00
      simp only [Option.toList, List.nil_append]
      have hC3 := hC2.tl hfr3
      have hB3 := Bs.tl (l := l) (by omega) hfr3 hB2
      have hcl3 := cL_copy hH8 okl g0 g1 g3 g4 hC2.2.2.2.2.1
      have hn3 := hn2.cg (I' := I3) (fun a a1 a2 => hfr3 a (by omega))
      refine r_aload_n dX9_build_55 rfl ?_
      refine r_getR dX9_build_56 fl_X9_64 rfl (by assumption) (by assumption) ?_
      refine r_aload_n dX9_build_59 rfl ?_
      refine r_getR dX9_build_60 fl_X9_31 rfl (by assumption) (by assumption) ?_
      refine r_aload_n dX9_build_63 rfl ?_
      refine r_getR dX9_build_64 fl_X9_41 rfl (by assumption) (by assumption) ?_
      refine r_virt (kc2 := 0) (ks2 := 0) (c_tryNewN o b s f l hC3 hz0 hB3 hcl3 hH7 hn3) lk_X9_290 mc_X0_tryNewRiddles dX9_build_67 hA.1 (by decide) rfl rfl (Nat.le_of_ble_eq_true rfl) (by decide) (by decide) (fun _ _ _ _ _ _ h => nomatch h.1) ?_
      rintro v4 n4 kd4 I4 J4 P4 ⟨h00, rfl, rfl, hC4, hB4, hcl4, hn4, hac⟩
      cases h00
      simp only [Option.toList, List.nil_append, List.cons_append]
      rw [hq] at hac ⊢
      obtain ⟨⟨y0, -, -⟩, -, -, ⟨-, hA4, -, -, -, -, -⟩, ⟨-, -, -, -, y12, -, -, -, -, -⟩, -, -, -, -⟩ := id hC4.1
      refine r_if_ne (tgt := 76) dX9_build_70 (by decide) (fun _ => ?_) (fun hz => absurd hz (show ¬ _ from (fun q => absurd (show bz true = 0 from q) (by decide))))
      refine r_iload_n dX9_build_76 rfl ?_
      refine r_if_ne (tgt := 90) dX9_build_77 (by decide) (fun hz => absurd (show _ from (by rw [c8]; rfl)) hz) (fun _ => ?_)
      refine r_aload_n dX9_build_80 rfl ?_
      refine r_getR dX9_build_81 fl_X9_64 rfl y0 y12 ?_
      refine r_getI dX9_build_84 fl_X9_294 rfl hA4.1 ?_
      rw [hac.1]
      refine r_goto (tgt := 97) dX9_build_87 (by decide) ?_
      refine r_iret rfl dX9_build_97 ?_
      rw [show bldV (some (g, v)) w = g from if_pos c8]
      exact pK.bs hB4 hC4
    · skip
      refine r_aload_n dX9_build_0 rfl ?_
      refine r_iload_n dX9_build_1 rfl ?_
      refine r_iconst (v := nI 2) dX9_build_2 (by decide) ?_
      refine r_virtV (m0_What o (nI w) (nI 2) (isH_of hw2 (by omega))) lk_X9_162 mc_X9_mustBeWhat dX9_build_3 x0 (by decide) rfl rfl (Nat.le_of_ble_eq_true rfl) ?_
      refine r_aload_n dX9_build_6 rfl ?_
      refine r_getR dX9_build_7 fl_X9_27 rfl (by assumption) (by assumption) ?_
      refine r_getI dX9_build_10 fl_X9_124 rfl hS.1 ?_
      rw [hH]
      refine r_bipush (v := nI 8) dX9_build_13 (by decide) ?_
      refine r_icmp_lt (tgt := 26) dX9_build_15 (by decide) (fun _ => ?_) (fun hz => absurd (show _ from (by rw [nI_ltI (by omega) (by omega)]; omega)) hz)
      refine r_aload_n dX9_build_26 rfl ?_
      refine r_getR dX9_build_27 fl_X9_31 rfl (by assumption) (by assumption) ?_
      refine r_aload_n dX9_build_30 rfl ?_
      refine r_getR dX9_build_31 fl_X9_27 rfl (by assumption) (by assumption) ?_
      refine r_virt (kc2 := 0) (ks2 := 0) (c_X7_copy s b (ofs cs H) un hX.S2 hS (by omega) hSt.2.2.1 hSt.2.2.2.1 (by omega)) lk_X9_284 mc_X7_copy dX9_build_34 hX.S2.1 (by decide) rfl rfl (Nat.le_of_ble_eq_true rfl) (by decide) (by decide) (fun _ _ _ _ _ _ h => nomatch h.1) ?_
      rintro v1 n1 kd1 I1 J1 P1 ⟨h00, rfl, rfl, rfl, rfl, hf1, c0, c1, c2, c3, c6, -, cr, cc⟩
      cases h00
      simp only [Option.toList, List.nil_append]
      refine r_aload_n dX9_build_37 rfl ?_
      refine r_getR dX9_build_38 fl_X9_31 rfl (by assumption) (by assumption) ?_
      refine r_virt (kc2 := 0) (ks2 := 0) (c_addH s H hX.S2 (c0.trans hH) hH7) lk_X9_287 mc_X7_addHouse dX9_build_41 hX.S2.1 (by decide) rfl rfl (Nat.le_of_ble_eq_true rfl) (by decide) (by decide) (fun _ _ _ _ _ _ h => nomatch h.1) ?_
      rintro v2 n2 kd2 I2 J2 P2 ⟨h00, rfl, rfl, rfl, rfl, hf2, g0, gj, k1, k2, k3, k4⟩
      cases h00
      simp only [Option.toList, List.nil_append]
      have hn2 := nwS_of hH7 g0 gj k1 k2 k3 k4 c1 c2 c3 c6 cr cc hSt
      have hf12 : ∀ a, (a < s ∨ s + 9 < a) → I2 a = I a := fun a ha => by rw [hf2 a (by omega), hf1 a (by omega)]
      have hC2 := hC0.sp hf12
      have hB2 := Bs.sp (s := s) (by omega) hf12 (Bs.rf (o := o) (I := I) (J := J2) (P := P2))
      clear gj k1 k2 k3 k4 c1 c2 c3 c6 cr cc g0 c0
      refine r_aload_n dX9_build_44 rfl ?_
      refine r_getR dX9_build_45 fl_X9_41 rfl (by assumption) (by assumption) ?_
      refine r_aload_n dX9_build_48 rfl ?_
      refine r_getR dX9_build_49 fl_X9_37 rfl (by assumption) (by assumption) ?_
      refine r_virt (kc2 := 0) (ks2 := 0) (c_X2_copy l f hX.L2 hL (by omega)) lk_X9_264 mc_X2_copy dX9_build_52 hX.L2.1 (by decide) rfl rfl (Nat.le_of_ble_eq_true rfl) (by decide) (by decide) (fun _ _ _ _ _ _ h => nomatch h.1) ?_
      rintro v3 n3 kd3 I3 J3 P3 ⟨h00, rfl, rfl, rfl, rfl, hfr3, g0, g1, g3, g4⟩
      cases h00
      simp only [Option.toList, List.nil_append]
      have hC3 := hC2.tl hfr3
      have hB3 := Bs.tl (l := l) (by omega) hfr3 hB2
      have hcl3 := cL_copy hH8 okl g0 g1 g3 g4 hC2.2.2.2.2.1
      have hn3 := hn2.cg (I' := I3) (fun a a1 a2 => hfr3 a (by omega))
      refine r_aload_n dX9_build_55 rfl ?_
      refine r_getR dX9_build_56 fl_X9_64 rfl (by assumption) (by assumption) ?_
      refine r_aload_n dX9_build_59 rfl ?_
      refine r_getR dX9_build_60 fl_X9_31 rfl (by assumption) (by assumption) ?_
      refine r_aload_n dX9_build_63 rfl ?_
      refine r_getR dX9_build_64 fl_X9_41 rfl (by assumption) (by assumption) ?_
      refine r_virt (kc2 := 0) (ks2 := 0) (c_tryNewN o b s f l hC3 hz0 hB3 hcl3 hH7 hn3) lk_X9_290 mc_X0_tryNewRiddles dX9_build_67 hA.1 (by decide) rfl rfl (Nat.le_of_ble_eq_true rfl) (by decide) (by decide) (fun _ _ _ _ _ _ h => nomatch h.1) ?_
      rintro v4 n4 kd4 I4 J4 P4 ⟨h00, rfl, rfl, hC4, hB4, hcl4, hn4, hac⟩
      cases h00
      simp only [Option.toList, List.nil_append, List.cons_append]
      rw [hq] at hac ⊢
      obtain ⟨⟨y0, -, -⟩, -, -, ⟨-, hA4, -, -, -, -, -⟩, ⟨-, -, -, -, y12, -, -, -, -, -⟩, -, -, -, -⟩ := id hC4.1
      refine r_if_ne (tgt := 76) dX9_build_70 (by decide) (fun _ => ?_) (fun hz => absurd hz (show ¬ _ from (fun q => absurd (show bz true = 0 from q) (by decide))))
      refine r_iload_n dX9_build_76 rfl ?_
      refine r_if_ne (tgt := 90) dX9_build_77 (by decide) (fun _ => ?_) (fun hz => absurd hz (show ¬ _ from (nI_ne0 (by omega) (by omega))))
      refine r_aload_n dX9_build_90 rfl ?_
      refine r_getR dX9_build_91 fl_X9_64 rfl y0 y12 ?_
      refine r_getI dX9_build_94 fl_X9_297 rfl hA4.1 ?_
      rw [hac.2]
      refine r_iret rfl dX9_build_97 ?_
      rw [show bldV (some (g, v)) w = v from if_neg c8]
      exact pK.bs hB4 hC4


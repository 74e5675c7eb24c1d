/-! THE NEW OBJECT: its state; looks, doors, hints, image -/
/-- the class's object, new -/
def fsC (o n : Nat) (kd : mK) (I : mI) (J : mJ) (P : mP) : Prop := kX kd P o (o + 3) (o + 13) (o + 23) (o + 29) ∧ I o = (fun j : Nat => (if j = 2 then (-1) else 0 : Int32)) ∧ (I (o + 1) = (fun _ => 0) ∧ I (o + 2) = (fun _ => 0)) ∧ P (o + 56) 3 = none ∧ n = o + 126 ∧ fr (o + 3) 9 (fun j : Nat => (if j = 1 then nI 9 else 0 : Int32)) I J ∧ fr (o + 13) 9 (fun j : Nat => (if j = 1 then nI 9 else 0 : Int32)) I J ∧ fr (o + 23) 5 (fun _ : Nat => (0 : Int32)) I J ∧ fr (o + 29) 5 (fun _ : Nat => (0 : Int32)) I J ∧ fr (o + 35) 5 (fun _ : Nat => (0 : Int32)) I J ∧ fr (o + 41) 5 (fun j : Nat => (if j = 4 then (-1) else 0 : Int32)) I J ∧ fr (o + 47) 0 (fun j : Nat => (if j = 4 then (-1) else 0 : Int32)) I J ∧ fr (o + 56) 1 (fun _ : Nat => (0 : Int32)) I J ∧ fr (o + 58) 2 (fun _ : Nat => (0 : Int32)) I J ∧ fr (o + 61) 4 (fun j : Nat => (if j = 12 then (-1) else 0 : Int32)) I J ∧ fr (o + 66) 0 (fun _ : Nat => (0 : Int32)) I J ∧ fr (o + 67) 1 (fun _ : Nat => (0 : Int32)) I J ∧ fr (o + 48) 7 (fun j : Nat => (if j = 4 then (-1) else 0 : Int32)) I J
/-- the reference, new -/
def fsM (m : Nat) (kd : mK) (I : mI) (J : mJ) (P : mP) : Prop := kM kd P m ∧ I m = (fun j : Nat => (if j = 74 then (-1) else if j = 58 then (-1) else if j = 54 then (-1) else if j = 17 then (-1) else if j = 2 then nI 9 else 0 : Int32)) ∧ ∀ i, 1 ≤ i → i ≤ 55 → I (m + i) = (fun _ => 0) ∧ J (m + i) = (fun _ => 0)
def pC (o n : Nat) (kd : mK) (I : mI) (J : mJ) (P : mP) (v : Option Value ⊕ String) : am_Post := fun y n' kd' I' J' P' => y = v ∧ (n ≤ n' ∧ n' ≤ n + 40) ∧ ∀ a, o + 69 ≤ a → a < n → kd' a = kd a ∧ I' a = I a ∧ J' a = J a ∧ P' a = P a
def pR (m n : Nat) (kd : mK) (I : mI) (J : mJ) (P : mP) (v : Option Value) (k : Nat) : am_Post := fun y n' kd' I' J' P' => y = .inl v ∧ n' = n ∧ kd' = kd ∧ P' = P ∧ I' m 0 = nI k ∧ J' (m + 56) = J (m + 56)
theorem pC.eq {o n : Nat} {kd : mK} {I : mI} {J : mJ} {P : mP} {v : Option Value ⊕ String} : pC o n kd I J P v v n kd I J P := ⟨rfl, ⟨Nat.le_refl n, by omega⟩, fun _ _ _ => ⟨rfl, rfl, rfl, rfl⟩⟩
def cs0 : Nat → List Nat := fun _ => []
def res0 : Nat × List (Nat → Nat) × Bool := (0, [fun _ => 0], false)
theorem sk_0 (T : (Nat → Nat) → Nat → Bool) (M E : Nat) : skTop T noB 0 M E = some res0 := rfl
theorem csOK_0 : csOK cs0 0 := fun h hh => absurd hh (by omega)
theorem stM_0 {s : Nat} {I : mI} (h0 : I s 0 = nI 0) (h3 : I s 3 = nI 0) : stM cs0 0 I s := ⟨h0, fun i hi => by rw [h3, bt_nI 0 hi, Nat.zero_testBit]; simp, fun h hh => absurd hh (by omega)⟩
theorem rsM_0 {m : Nat} {I : mI} (h : I m 1 = nI 0) : rsM cs0 0 I m := ⟨h, fun h hh => absurd hh (by omega)⟩
theorem fs_cl {o n : Nat} {kd : mK} {I : mI} {J : mJ} {P : mP} (h : fsC o n kd I J P) : clS I (o + 3) (o + 23) 0 9 0 (fun h => lkm 0 (cs0 h)) cs0 false so0 (I (o + 23 + 1)) (I (o + 23 + 2)) := by
  obtain ⟨hX, hO, h12, hz, hn, f3, f13, f23, f29, f35, f41, f47, f56, f58, f61, f66, f67, f48⟩ := h
  exact cl_seed csOK_0 (by decide) (stM_0 (by rw [f3.1]; rfl) (by rw [f3.1]; rfl)) (by rw [f3.1]; rfl) (by rw [f3.1]; rfl) (by rw [f23.1]; rfl)
theorem fs_rf {m : Nat} {kd : mK} {I : mI} {J : mJ} {P : mP} (h : fsM m kd I J P) : rfS kd P I m 0 9 0 (fun h => lkm 0 (cs0 h)) cs0 false (I (m + 24)) (I (m + 1)) (I (m + 2)) (fun k => !(cs0 k).isEmpty) := by
  obtain ⟨hM, hm, hi⟩ := h
  exact rf_seed csOK_0 (by decide) hM (rsM_0 (by rw [hm]; rfl)) (by rw [hm]; rfl) (by rw [hm]; rfl) (by rw [hm]; rfl) (by rw [hm]; rfl) (by rw [hm]; rfl)
theorem two_no {x : Int32} (h0 : ¬ x = 0) (h1 : ¬ x = nI 1) : (!decide (x < 0) && decide (x < nI 2)) = false := by
  cases hx : (!decide (x < 0) && decide (x < nI 2)) with
  | false => rfl
  | true =>
    rw [Bool.and_eq_true, Bool.not_eq_true', decide_eq_false_iff_not, decide_eq_true_iff, Int32.lt_iff_toInt_lt, Int32.lt_iff_toInt_lt, show (0 : Int32).toInt = 0 from by decide, show (nI 2).toInt = 2 from by decide] at hx
    have e0 : ¬ x.toInt = 0 := fun q => h0 (Int32.toInt_inj.mp q)
    have e1 : ¬ x.toInt = 1 := fun q => h1 (Int32.toInt_inj.mp q)
    omega
theorem dX2_copy_0 : decode cX2_copy 0 = .ok (.aload_n 1, 1) := by decide +kernel
theorem dX2_copy_1 : decode cX2_copy 1 = .ok (.getfield 9, 3) := by decide +kernel
theorem dX2_copy_4 : decode cX2_copy 4 = .ok (.iconst 0, 1) := by decide +kernel
theorem dX2_copy_5 : decode cX2_copy 5 = .ok (.aload_n 0, 1) := by decide +kernel
theorem dX2_copy_6 : decode cX2_copy 6 = .ok (.getfield 9, 3) := by decide +kernel
theorem dX2_copy_9 : decode cX2_copy 9 = .ok (.iconst 0, 1) := by decide +kernel
theorem dX2_copy_10 : decode cX2_copy 10 = .ok (.bipush 8, 2) := by decide +kernel
theorem dX2_copy_12 : decode cX2_copy 12 = .ok (.invokestatic 43, 3) := by decide +kernel
theorem dX2_copy_15 : decode cX2_copy 15 = .ok (.aload_n 1, 1) := by decide +kernel
theorem dX2_copy_16 : decode cX2_copy 16 = .ok (.getfield 15, 3) := by decide +kernel
theorem dX2_copy_19 : decode cX2_copy 19 = .ok (.iconst 0, 1) := by decide +kernel
theorem dX2_copy_20 : decode cX2_copy 20 = .ok (.aload_n 0, 1) := by decide +kernel
theorem dX2_copy_21 : decode cX2_copy 21 = .ok (.getfield 15, 3) := by decide +kernel
theorem dX2_copy_24 : decode cX2_copy 24 = .ok (.iconst 0, 1) := by decide +kernel
theorem dX2_copy_25 : decode cX2_copy 25 = .ok (.bipush 8, 2) := by decide +kernel
theorem dX2_copy_27 : decode cX2_copy 27 = .ok (.invokestatic 43, 3) := by decide +kernel
theorem dX2_copy_30 : decode cX2_copy 30 = .ok (.aload_n 0, 1) := by decide +kernel
theorem dX2_copy_31 : decode cX2_copy 31 = .ok (.aload_n 1, 1) := by decide +kernel
theorem dX2_copy_32 : decode cX2_copy 32 = .ok (.getfield 18, 3) := by decide +kernel
theorem dX2_copy_35 : decode cX2_copy 35 = .ok (.putfield 18, 3) := by decide +kernel
theorem dX2_copy_38 : decode cX2_copy 38 = .ok (.aload_n 1, 1) := by decide +kernel
theorem dX2_copy_39 : decode cX2_copy 39 = .ok (.getfield 22, 3) := by decide +kernel
theorem dX2_copy_42 : decode cX2_copy 42 = .ok (.iconst 0, 1) := by decide +kernel
theorem dX2_copy_43 : decode cX2_copy 43 = .ok (.aload_n 0, 1) := by decide +kernel
theorem dX2_copy_44 : decode cX2_copy 44 = .ok (.getfield 22, 3) := by decide +kernel
theorem dX2_copy_47 : decode cX2_copy 47 = .ok (.iconst 0, 1) := by decide +kernel
theorem dX2_copy_48 : decode cX2_copy 48 = .ok (.bipush 30, 2) := by decide +kernel
theorem dX2_copy_50 : decode cX2_copy 50 = .ok (.invokestatic 43, 3) := by decide +kernel
theorem dX2_copy_53 : decode cX2_copy 53 = .ok (.aload_n 0, 1) := by decide +kernel
theorem dX2_copy_54 : decode cX2_copy 54 = .ok (.aload_n 1, 1) := by decide +kernel
theorem dX2_copy_55 : decode cX2_copy 55 = .ok (.getfield 25, 3) := by decide +kernel
theorem dX2_copy_58 : decode cX2_copy 58 = .ok (.putfield 25, 3) := by decide +kernel
theorem dX2_copy_61 : decode cX2_copy 61 = .ok (.aload_n 1, 1) := by decide +kernel
theorem dX2_copy_62 : decode cX2_copy 62 = .ok (.getfield 28, 3) := by decide +kernel
theorem dX2_copy_65 : decode cX2_copy 65 = .ok (.iconst 0, 1) := by decide +kernel
theorem dX2_copy_66 : decode cX2_copy 66 = .ok (.aload_n 0, 1) := by decide +kernel
theorem dX2_copy_67 : decode cX2_copy 67 = .ok (.getfield 28, 3) := by decide +kernel
theorem dX2_copy_70 : decode cX2_copy 70 = .ok (.iconst 0, 1) := by decide +kernel
theorem dX2_copy_71 : decode cX2_copy 71 = .ok (.bipush 10, 2) := by decide +kernel
theorem dX2_copy_73 : decode cX2_copy 73 = .ok (.invokestatic 43, 3) := by decide +kernel
theorem dX2_copy_76 : decode cX2_copy 76 = .ok (.aload_n 1, 1) := by decide +kernel
theorem dX2_copy_77 : decode cX2_copy 77 = .ok (.getfield 31, 3) := by decide +kernel
theorem dX2_copy_80 : decode cX2_copy 80 = .ok (.iconst 0, 1) := by decide +kernel
theorem dX2_copy_81 : decode cX2_copy 81 = .ok (.aload_n 0, 1) := by decide +kernel
theorem dX2_copy_82 : decode cX2_copy 82 = .ok (.getfield 31, 3) := by decide +kernel
theorem dX2_copy_85 : decode cX2_copy 85 = .ok (.iconst 0, 1) := by decide +kernel
theorem dX2_copy_86 : decode cX2_copy 86 = .ok (.bipush 10, 2) := by decide +kernel
theorem dX2_copy_88 : decode cX2_copy 88 = .ok (.invokestatic 43, 3) := by decide +kernel
theorem dX2_copy_91 : decode cX2_copy 91 = .ok (.aload_n 0, 1) := by decide +kernel
theorem dX2_copy_92 : decode cX2_copy 92 = .ok (.aload_n 1, 1) := by decide +kernel
theorem dX2_copy_93 : decode cX2_copy 93 = .ok (.getfield 34, 3) := by decide +kernel
theorem dX2_copy_96 : decode cX2_copy 96 = .ok (.putfield 34, 3) := by decide +kernel
theorem dX2_copy_99 : decode cX2_copy 99 = .ok (.return_, 1) := by decide +kernel

set_option maxHeartbeats 4000000 in
set_option maxRecDepth 100000 in
theorem c_X2_copy (a c : Nat) {n : Nat} {kd : mK} {I : mI} {J : mJ} {P : mP} (hA : kL kd P a) (hC : kL kd P c) (hac : a + 5 < c ∨ c + 5 < a) : Ct yX2_copy cX2_copy 2 none 2 0 0 [.ref a, .ref c] n kd I J P (fun z n' kd' I' J' P' => z = .inl none ∧ n' = n ∧ kd' = kd ∧ J' = J ∧ P' = P ∧ (∀ x, (x < a ∨ a + 5 < x) → I' x = I x) ∧ (I' a 2 = I c 2 ∧ I' a 4 = I c 4 ∧ I' a 7 = I c 7) ∧ (∀ j, j < 8 → I' (a + 1) j = I (c + 1) j ∧ I' (a + 2) j = I (c + 2) j) ∧ (∀ j, j < 30 → I' (a + 3) j = I (c + 3) j) ∧ (∀ j, j < 10 → I' (a + 4) j = I (c + 4) j ∧ I' (a + 5) j = I (c + 5) j)) := by
  obtain ⟨l0, l1, l2, l3, l4, l5, q0, q1, q3, q5, q6⟩ := hA
  obtain ⟨m0, m1, m2, m3, m4, m5, r0, r1, r3, r5, r6⟩ := hC
  refine ct_of 0 (by decide +kernel) (Nat.le_of_ble_eq_true rfl) rfl ?_
  refine r_aload_n dX2_copy_0 rfl ?_
  refine r_getR dX2_copy_1 fl_X2_9 rfl m0 r0 ?_
  refine r_iconst (v := nI 0) dX2_copy_4 (by decide) ?_
  refine r_aload_n dX2_copy_5 rfl ?_
  refine r_getR dX2_copy_6 fl_X2_9 rfl l0 q0 ?_
  refine r_iconst (v := nI 0) dX2_copy_9 (by decide) ?_
  refine r_bipush (v := nI 8) dX2_copy_10 (by decide) ?_
  refine r_copy (Or.inl rfl) dX2_copy_12 ac_X2 m1 l1 (by decide) (by decide) (by decide) (by decide) (by decide) (fun q => nomatch q) (by decide) (Nat.le_of_ble_eq_true rfl) ?_
  refine r_aload_n dX2_copy_15 rfl ?_
  refine r_getR dX2_copy_16 fl_X2_15 rfl m0 r1 ?_
  refine r_iconst (v := nI 0) dX2_copy_19 (by decide) ?_
  refine r_aload_n dX2_copy_20 rfl ?_
  refine r_getR dX2_copy_21 fl_X2_15 rfl l0 q1 ?_
  refine r_iconst (v := nI 0) dX2_copy_24 (by decide) ?_
  refine r_bipush (v := nI 8) dX2_copy_25 (by decide) ?_
  refine r_copy (Or.inl rfl) dX2_copy_27 ac_X2 m2 l2 (by decide) (by decide) (by decide) (by decide) (by decide) (fun q => nomatch q) (by decide) (Nat.le_of_ble_eq_true rfl) ?_
  refine r_aload_n dX2_copy_30 rfl ?_
  refine r_aload_n dX2_copy_31 rfl ?_
  refine r_getI dX2_copy_32 fl_X2_18 rfl m0 ?_
  refine r_putI dX2_copy_35 fl_X2_18 rfl rfl l0 ?_
  refine r_aload_n dX2_copy_38 rfl ?_
  refine r_getR dX2_copy_39 fl_X2_22 rfl m0 r3 ?_
  refine r_iconst (v := nI 0) dX2_copy_42 (by decide) ?_
  refine r_aload_n dX2_copy_43 rfl ?_
  refine r_getR dX2_copy_44 fl_X2_22 rfl l0 q3 ?_
  refine r_iconst (v := nI 0) dX2_copy_47 (by decide) ?_
  refine r_bipush (v := nI 30) dX2_copy_48 (by decide) ?_
  refine r_copy (Or.inl rfl) dX2_copy_50 ac_X2 m3 l3 (by decide) (by decide) (by decide) (by decide) (by decide) (fun q => nomatch q) (by decide) (Nat.le_of_ble_eq_true rfl) ?_
  refine r_aload_n dX2_copy_53 rfl ?_
  refine r_aload_n dX2_copy_54 rfl ?_
  refine r_getI dX2_copy_55 fl_X2_25 rfl m0 ?_
  refine r_putI dX2_copy_58 fl_X2_25 rfl rfl l0 ?_
  refine r_aload_n dX2_copy_61 rfl ?_
  refine r_getR dX2_copy_62 fl_X2_28 rfl m0 r5 ?_
  refine r_iconst (v := nI 0) dX2_copy_65 (by decide) ?_
  refine r_aload_n dX2_copy_66 rfl ?_
  refine r_getR dX2_copy_67 fl_X2_28 rfl l0 q5 ?_
  refine r_iconst (v := nI 0) dX2_copy_70 (by decide) ?_
  refine r_bipush (v := nI 10) dX2_copy_71 (by decide) ?_
  refine r_copy (Or.inl rfl) dX2_copy_73 ac_X2 m4 l4 (by decide) (by decide) (by decide) (by decide) (by decide) (fun q => nomatch q) (by decide) (Nat.le_of_ble_eq_true rfl) ?_
  refine r_aload_n dX2_copy_76 rfl ?_
  refine r_getR dX2_copy_77 fl_X2_31 rfl m0 r6 ?_
  refine r_iconst (v := nI 0) dX2_copy_80 (by decide) ?_
  refine r_aload_n dX2_copy_81 rfl ?_
  refine r_getR dX2_copy_82 fl_X2_31 rfl l0 q6 ?_
  refine r_iconst (v := nI 0) dX2_copy_85 (by decide) ?_
  refine r_bipush (v := nI 10) dX2_copy_86 (by decide) ?_
  refine r_copy (Or.inl rfl) dX2_copy_88 ac_X2 m5 l5 (by decide) (by decide) (by decide) (by decide) (by decide) (fun q => nomatch q) (by decide) (Nat.le_of_ble_eq_true rfl) ?_
  refine r_aload_n dX2_copy_91 rfl ?_
  refine r_aload_n dX2_copy_92 rfl ?_
  refine r_getI dX2_copy_93 fl_X2_34 rfl m0 ?_
  refine r_putI dX2_copy_96 fl_X2_34 rfl rfl l0 ?_
  refine r_vret rfl dX2_copy_99 ?_
  refine ⟨rfl, rfl, rfl, rfl, rfl, fun x hx => ?_, ⟨?_, ?_, ?_⟩, fun j hj => ⟨?_, ?_⟩, fun j hj => ?_, fun j hj => ⟨?_, ?_⟩⟩
  all_goals try simp (disch := omega) only [am_up_s, am_up_n, va_cpy]
  all_goals try (rw [show (nI 0).toNatClampNeg = 0 from by decide])
  all_goals try (rw [show (nI 8).toNatClampNeg = 8 from by decide])
  all_goals try (rw [show (nI 30).toNatClampNeg = 30 from by decide])
  all_goals try (rw [show (nI 10).toNatClampNeg = 10 from by decide])
  all_goals try (rw [if_pos (by omega), Nat.zero_add, Nat.sub_zero])

theorem dX9_image_0 : decode cX9_image 0 = .ok (.aload_n 0, 1) := by decide +kernel
theorem dX9_image_1 : decode cX9_image 1 = .ok (.getfield 44, 3) := by decide +kernel
theorem dX9_image_4 : decode cX9_image 4 = .ok (.aload_n 0, 1) := by decide +kernel
theorem dX9_image_5 : decode cX9_image 5 = .ok (.getfield 37, 3) := by decide +kernel
theorem dX9_image_8 : decode cX9_image 8 = .ok (.invokevirtual 264, 3) := by decide +kernel
theorem dX9_image_11 : decode cX9_image 11 = .ok (.aload_n 0, 1) := by decide +kernel
theorem dX9_image_12 : decode cX9_image 12 = .ok (.iconst 1, 1) := by decide +kernel
theorem dX9_image_13 : decode cX9_image 13 = .ok (.putfield 47, 3) := by decide +kernel
theorem dX9_image_16 : decode cX9_image 16 = .ok (.return_, 1) := by decide +kernel
set_option maxHeartbeats 4000000 in
set_option maxRecDepth 100000 in
theorem p_image (o : Nat) {n : Nat} {kd : mK} {I : mI} {J : mJ} {P : mP} (hF : fsC o n kd I J P) : Ct yX9_image cX9_image 1 none 3 0 0 [.ref o] n kd I J P (pC o n kd I J P (.inl none)) := by
  have hF0 := hF
  obtain ⟨hX, hO, h12, hz, hn, f3, f13, f23, f29, f35, f41, f47, f56, f58, f61, f66, f67, f48⟩ := hF
  have hX0 := hX
  obtain ⟨⟨c0, c1, c2⟩, ⟨s3, s13⟩, ⟨l23, l29, l35⟩, ⟨q41, a47, g56, w58, r61, d66, p67⟩, ⟨e0, e3, e8, e10, e12, e13, e14, e15, e16, e17⟩, ⟨e4, e5, e6, e7⟩, hbs, hfl, ho⟩ := hX
  refine ct_of 0 (by decide +kernel) (Nat.le_of_ble_eq_true rfl) rfl ?_
  refine r_aload_n dX9_image_0 rfl ?_
  refine r_getR dX9_image_1 fl_X9_44 rfl c0 e8 ?_
  refine r_aload_n dX9_image_4 rfl ?_
  refine r_getR dX9_image_5 fl_X9_37 rfl c0 e6 ?_
  refine r_virt (c_X2_copy (o + 35) (o + 23) l35 l23 (by omega)) lk_X9_264 mc_X2_copy dX9_image_8 l35.1 (by decide) rfl rfl (Nat.le_of_ble_eq_true rfl) (Nat.le_of_eq (Nat.zero_add _)) (Nat.le_of_eq (Nat.zero_add _)) (fun _ _ _ _ _ _ h => nomatch h.1) ?_
  rintro v n1 kd1 I1 J1 P1 ⟨h0, rfl, rfl, rfl, rfl, hfr, -⟩
  cases h0
  simp only [Option.toList, List.nil_append]
  refine r_aload_n dX9_image_11 rfl ?_
  refine r_iconst (v := nI 1) dX9_image_12 (by decide) ?_
  refine r_putZ dX9_image_13 fl_X9_47 rfl rfl (by first | exact Or.inl rfl | exact Or.inr rfl | assumption) (by assumption) ?_
  refine r_vret rfl dX9_image_16 ?_
  exact ⟨rfl, ⟨by omega, by omega⟩, fun a a1 a2 => ⟨rfl, by rw [am_up_n _ _ (by omega)]; exact hfr a (by omega), rfl, rfl⟩⟩

theorem dX10_image_0 : decode cX10_image 0 = .ok (.aload_n 0, 1) := by decide +kernel
theorem dX10_image_1 : decode cX10_image 1 = .ok (.iconst 0, 1) := by decide +kernel
theorem dX10_image_2 : decode cX10_image 2 = .ok (.putfield 193, 3) := by decide +kernel
theorem dX10_image_5 : decode cX10_image 5 = .ok (.aload_n 0, 1) := by decide +kernel
theorem dX10_image_6 : decode cX10_image 6 = .ok (.iconst 1, 1) := by decide +kernel
theorem dX10_image_7 : decode cX10_image 7 = .ok (.putfield 366, 3) := by decide +kernel
theorem dX10_image_10 : decode cX10_image 10 = .ok (.aload_n 0, 1) := by decide +kernel
theorem dX10_image_11 : decode cX10_image 11 = .ok (.aload_n 0, 1) := by decide +kernel
theorem dX10_image_12 : decode cX10_image 12 = .ok (.getfield 360, 3) := by decide +kernel
theorem dX10_image_15 : decode cX10_image 15 = .ok (.putfield 560, 3) := by decide +kernel
theorem dX10_image_18 : decode cX10_image 18 = .ok (.aload_n 0, 1) := by decide +kernel
theorem dX10_image_19 : decode cX10_image 19 = .ok (.aload_n 0, 1) := by decide +kernel
theorem dX10_image_20 : decode cX10_image 20 = .ok (.getfield 363, 3) := by decide +kernel
theorem dX10_image_23 : decode cX10_image 23 = .ok (.putfield 563, 3) := by decide +kernel
theorem dX10_image_26 : decode cX10_image 26 = .ok (.aload_n 0, 1) := by decide +kernel
theorem dX10_image_27 : decode cX10_image 27 = .ok (.aload_n 0, 1) := by decide +kernel
theorem dX10_image_28 : decode cX10_image 28 = .ok (.getfield 13, 3) := by decide +kernel
theorem dX10_image_31 : decode cX10_image 31 = .ok (.aload_n 0, 1) := by decide +kernel
theorem dX10_image_32 : decode cX10_image 32 = .ok (.getfield 178, 3) := by decide +kernel
theorem dX10_image_35 : decode cX10_image 35 = .ok (.invokevirtual 356, 3) := by decide +kernel
theorem dX10_image_38 : decode cX10_image 38 = .ok (.aload_n 0, 1) := by decide +kernel
theorem dX10_image_39 : decode cX10_image 39 = .ok (.aload_n 0, 1) := by decide +kernel
theorem dX10_image_40 : decode cX10_image 40 = .ok (.getfield 17, 3) := by decide +kernel
theorem dX10_image_43 : decode cX10_image 43 = .ok (.aload_n 0, 1) := by decide +kernel
theorem dX10_image_44 : decode cX10_image 44 = .ok (.getfield 181, 3) := by decide +kernel
theorem dX10_image_47 : decode cX10_image 47 = .ok (.invokevirtual 356, 3) := by decide +kernel
theorem dX10_image_50 : decode cX10_image 50 = .ok (.aload_n 0, 1) := by decide +kernel
theorem dX10_image_51 : decode cX10_image 51 = .ok (.aload_n 0, 1) := by decide +kernel
theorem dX10_image_52 : decode cX10_image 52 = .ok (.getfield 23, 3) := by decide +kernel
theorem dX10_image_55 : decode cX10_image 55 = .ok (.aload_n 0, 1) := by decide +kernel
theorem dX10_image_56 : decode cX10_image 56 = .ok (.getfield 184, 3) := by decide +kernel
theorem dX10_image_59 : decode cX10_image 59 = .ok (.invokevirtual 356, 3) := by decide +kernel
theorem dX10_image_62 : decode cX10_image 62 = .ok (.aload_n 0, 1) := by decide +kernel
theorem dX10_image_63 : decode cX10_image 63 = .ok (.aload_n 0, 1) := by decide +kernel
theorem dX10_image_64 : decode cX10_image 64 = .ok (.getfield 84, 3) := by decide +kernel
theorem dX10_image_67 : decode cX10_image 67 = .ok (.aload_n 0, 1) := by decide +kernel
theorem dX10_image_68 : decode cX10_image 68 = .ok (.getfield 187, 3) := by decide +kernel
theorem dX10_image_71 : decode cX10_image 71 = .ok (.invokevirtual 356, 3) := by decide +kernel
theorem dX10_image_74 : decode cX10_image 74 = .ok (.aload_n 0, 1) := by decide +kernel
theorem dX10_image_75 : decode cX10_image 75 = .ok (.aload_n 0, 1) := by decide +kernel
theorem dX10_image_76 : decode cX10_image 76 = .ok (.getfield 87, 3) := by decide +kernel
theorem dX10_image_79 : decode cX10_image 79 = .ok (.aload_n 0, 1) := by decide +kernel
theorem dX10_image_80 : decode cX10_image 80 = .ok (.getfield 190, 3) := by decide +kernel
theorem dX10_image_83 : decode cX10_image 83 = .ok (.invokevirtual 356, 3) := by decide +kernel
theorem dX10_image_86 : decode cX10_image 86 = .ok (.return_, 1) := by decide +kernel
set_option maxHeartbeats 4000000 in
set_option maxRecDepth 100000 in
theorem q_image (m : Nat) {n : Nat} {kd : mK} {I : mI} {J : mJ} {P : mP} (hF : fsM m kd I J P) : Ct yX10_image cX10_image 1 none 2 0 0 [.ref m] n kd I J P (pR m n kd I J P none 0) := by
  have hM := hF.1
  refine ct_of 0 (by decide +kernel) (Nat.le_of_ble_eq_true rfl) rfl ?_
  refine r_aload_n dX10_image_0 rfl ?_
  refine r_iconst (v := nI 0) dX10_image_1 (by decide) ?_
  refine r_putI dX10_image_2 fl_X10_193 rfl rfl (kM_0 hM) ?_
  refine r_aload_n dX10_image_5 rfl ?_
  refine r_iconst (v := nI 1) dX10_image_6 (by decide) ?_
  refine r_putZ dX10_image_7 fl_X10_366 rfl rfl (Or.inr rfl) (kM_0 hM) ?_
  refine r_aload_n dX10_image_10 rfl ?_
  refine r_aload_n dX10_image_11 rfl ?_
  refine r_getI dX10_image_12 fl_X10_360 rfl (kM_0 hM) ?_
  refine r_putI dX10_image_15 fl_X10_560 rfl rfl (kM_0 hM) ?_
  refine r_aload_n dX10_image_18 rfl ?_
  refine r_aload_n dX10_image_19 rfl ?_
  refine r_getI dX10_image_20 fl_X10_363 rfl (kM_0 hM) ?_
  refine r_putI dX10_image_23 fl_X10_563 rfl rfl (kM_0 hM) ?_
  refine r_aload_n dX10_image_26 rfl ?_
  refine r_aload_n dX10_image_27 rfl ?_
  refine r_getR dX10_image_28 fl_X10_13 rfl (kM_0 hM) (pM_4 hM) ?_
  refine r_aload_n dX10_image_31 rfl ?_
  refine r_getR dX10_image_32 fl_X10_178 rfl (kM_0 hM) (pM_93 hM) ?_
  refine r_virtV (c_X10_copies m (m + 1) (m + 51) 8 8 (aM_4 hM) (aM_93 hM) (by omega) (by decide) (by decide) (by decide)) lk_X10_356 mc_X10_copies dX10_image_35 hM.1 (by decide) rfl rfl (Nat.le_of_ble_eq_true rfl) ?_
  refine r_aload_n dX10_image_38 rfl ?_
  refine r_aload_n dX10_image_39 rfl ?_
  refine r_getR dX10_image_40 fl_X10_17 rfl (kM_0 hM) (pM_5 hM) ?_
  refine r_aload_n dX10_image_43 rfl ?_
  refine r_getR dX10_image_44 fl_X10_181 rfl (kM_0 hM) (pM_94 hM) ?_
  refine r_virtV (c_X10_copies m (m + 2) (m + 52) 8 8 (aM_5 hM) (aM_94 hM) (by omega) (by decide) (by decide) (by decide)) lk_X10_356 mc_X10_copies dX10_image_47 hM.1 (by decide) rfl rfl (Nat.le_of_ble_eq_true rfl) ?_
  refine r_aload_n dX10_image_50 rfl ?_
  refine r_aload_n dX10_image_51 rfl ?_
  refine r_getR dX10_image_52 fl_X10_23 rfl (kM_0 hM) (pM_7 hM) ?_
  refine r_aload_n dX10_image_55 rfl ?_
  refine r_getR dX10_image_56 fl_X10_184 rfl (kM_0 hM) (pM_95 hM) ?_
  refine r_virtV (c_X10_copies m (m + 4) (m + 53) 8 8 (aM_7 hM) (aM_95 hM) (by omega) (by decide) (by decide) (by decide)) lk_X10_356 mc_X10_copies dX10_image_59 hM.1 (by decide) rfl rfl (Nat.le_of_ble_eq_true rfl) ?_
  refine r_aload_n dX10_image_62 rfl ?_
  refine r_aload_n dX10_image_63 rfl ?_
  refine r_getR dX10_image_64 fl_X10_84 rfl (kM_0 hM) (pM_46 hM) ?_
  refine r_aload_n dX10_image_67 rfl ?_
  refine r_getR dX10_image_68 fl_X10_187 rfl (kM_0 hM) (pM_96 hM) ?_
  refine r_virtV (c_X10_copies m (m + 23) (m + 54) 90 90 (aM_46 hM) (aM_96 hM) (by omega) (by decide) (by decide) (by decide)) lk_X10_356 mc_X10_copies dX10_image_71 hM.1 (by decide) rfl rfl (Nat.le_of_ble_eq_true rfl) ?_
  refine r_aload_n dX10_image_74 rfl ?_
  refine r_aload_n dX10_image_75 rfl ?_
  refine r_getR dX10_image_76 fl_X10_87 rfl (kM_0 hM) (pM_48 hM) ?_
  refine r_aload_n dX10_image_79 rfl ?_
  refine r_getR dX10_image_80 fl_X10_190 rfl (kM_0 hM) (pM_97 hM) ?_
  refine r_virtV (c_X10_copies m (m + 24) (m + 55) 20 20 (aM_48 hM) (aM_97 hM) (by omega) (by decide) (by decide) (by decide)) lk_X10_356 mc_X10_copies dX10_image_83 hM.1 (by decide) rfl rfl (Nat.le_of_ble_eq_true rfl) ?_
  refine r_vret rfl dX10_image_86 ?_
  refine ⟨rfl, rfl, rfl, rfl, ?_, rfl⟩
  simp (disch := omega) only [am_up_s, am_up_n]

theorem dX9_readyToLook_0 : decode cX9_readyToLook 0 = .ok (.aload_n 0, 1) := by decide +kernel
theorem dX9_readyToLook_1 : decode cX9_readyToLook 1 = .ok (.invokevirtual 183, 3) := by decide +kernel
theorem dX9_readyToLook_4 : decode cX9_readyToLook 4 = .ok (.aload_n 0, 1) := by decide +kernel
theorem dX9_readyToLook_5 : decode cX9_readyToLook 5 = .ok (.getfield 54, 3) := by decide +kernel
theorem dX9_readyToLook_8 : decode cX9_readyToLook 8 = .ok (.getfield 186, 3) := by decide +kernel
theorem dX9_readyToLook_11 : decode cX9_readyToLook 11 = .ok (.bipush (-2), 2) := by decide +kernel
theorem dX9_readyToLook_13 : decode cX9_readyToLook 13 = .ok (.if_icmp .eq 15, 3) := by decide +kernel
theorem dX9_readyToLook_16 : decode cX9_readyToLook 16 = .ok (.aload_n 0, 1) := by decide +kernel
theorem dX9_readyToLook_17 : decode cX9_readyToLook 17 = .ok (.getfield 54, 3) := by decide +kernel
theorem dX9_readyToLook_20 : decode cX9_readyToLook 20 = .ok (.getfield 186, 3) := by decide +kernel
theorem dX9_readyToLook_23 : decode cX9_readyToLook 23 = .ok (.bipush 40, 2) := by decide +kernel
theorem dX9_readyToLook_25 : decode cX9_readyToLook 25 = .ok (.if_icmp .le 5, 3) := by decide +kernel
theorem dX9_readyToLook_28 : decode cX9_readyToLook 28 = .ok (.iconst 0, 1) := by decide +kernel
theorem dX9_readyToLook_29 : decode cX9_readyToLook 29 = .ok (.ireturn, 1) := by decide +kernel
theorem dX9_readyToLook_30 : decode cX9_readyToLook 30 = .ok (.aload_n 0, 1) := by decide +kernel
theorem dX9_readyToLook_31 : decode cX9_readyToLook 31 = .ok (.getfield 71, 3) := by decide +kernel
theorem dX9_readyToLook_34 : decode cX9_readyToLook 34 = .ok (.aload_n 0, 1) := by decide +kernel
theorem dX9_readyToLook_35 : decode cX9_readyToLook 35 = .ok (.getfield 54, 3) := by decide +kernel
theorem dX9_readyToLook_38 : decode cX9_readyToLook 38 = .ok (.aload_n 0, 1) := by decide +kernel
theorem dX9_readyToLook_39 : decode cX9_readyToLook 39 = .ok (.getfield 27, 3) := by decide +kernel
theorem dX9_readyToLook_42 : decode cX9_readyToLook 42 = .ok (.getfield 124, 3) := by decide +kernel
theorem dX9_readyToLook_45 : decode cX9_readyToLook 45 = .ok (.invokevirtual 372, 3) := by decide +kernel
theorem dX9_readyToLook_48 : decode cX9_readyToLook 48 = .ok (.iconst 1, 1) := by decide +kernel
theorem dX9_readyToLook_49 : decode cX9_readyToLook 49 = .ok (.ireturn, 1) := by decide +kernel
set_option maxHeartbeats 4000000 in
set_option maxRecDepth 100000 in
theorem c_ready0 (o : Nat) {n : Nat} {kd : mK} {I : mI} {J : mJ} {P : mP} (hF : fsC o n kd I J P) : Ct yX9_readyToLook cX9_readyToLook 1 (some .boolean) 9 0 0 [.ref o] n kd I J P (fun y n' kd' I' J' P' => y = .inl (some (.int (nI 1))) ∧ n' = n ∧ kd' = kd ∧ (∀ a, o + 69 ≤ a → I' a = I a ∧ J' a = J a ∧ P' a = P a) ∧ (∀ a, a ≠ o + 41 → P' a = P a) ∧ I' (o + 56) 0 = nI 0 ∧ I' (o + 56) 1 = nI 1 ∧ I' (o + 41) 10 = nI 1) := by
  have hF0 := hF
  obtain ⟨hX, hO, h12, hz, hn, f3, f13, f23, f29, f35, f41, f47, f56, f58, f61, f66, f67, f48⟩ := hF
  have hX0 := hX
  obtain ⟨⟨c0, c1, c2⟩, ⟨s3, s13⟩, ⟨l23, l29, l35⟩, ⟨q41, a47, g56, w58, r61, d66, p67⟩, ⟨e0, e3, e8, e10, e12, e13, e14, e15, e16, e17⟩, ⟨e4, e5, e6, e7⟩, hbs, hfl, ho⟩ := hX
  refine ct_of 0 (by decide +kernel) (Nat.le_of_ble_eq_true rfl) rfl ?_
  refine r_aload_n dX9_readyToLook_0 rfl ?_
  refine r_virt (c_X9_search o (o + 3) (o + 23) 0 9 0 (fun h => lkm 0 (cs0 h)) cs0 false so0 (I (o + 23 + 1)) (I (o + 23 + 2)) res0 c0 e10 e4 e6 s3 l23 q41 (by omega) (by omega) (by omega) (by omega) (by decide) (by decide) (fs_cl hF0) (sk_0 _ _ _) (by rw [hO]; rfl)) lk_X9_183 mc_X9_search dX9_readyToLook_1 c0 (by decide) rfl rfl (Nat.le_of_ble_eq_true rfl) (Nat.le_of_eq (Nat.zero_add _)) (Nat.le_of_eq (Nat.zero_add _)) (fun _ _ _ _ _ _ h => nomatch h.1) ?_
  rintro v n1 kd1 I1 J1 P1 ⟨h0, rfl, rfl, g1, g2, g3, g4, g5, -, g7, -, -⟩
  cases h0
  simp only [Option.toList, List.nil_append]
  have g7' : I1 (o + 41) 10 = nI 1 := g7
  have P1o : P1 o = P o := g4 o (by omega)
  refine r_aload_n dX9_readyToLook_4 rfl ?_
  refine r_getR dX9_readyToLook_5 fl_X9_54 rfl c0 (by rw [P1o]; exact e10) ?_
  refine r_getI dX9_readyToLook_8 fl_X9_186 rfl q41.1 ?_
  rw [g7']
  refine r_bipush (v := -2) dX9_readyToLook_11 (by decide) ?_
  refine r_icmp_eq (tgt := 28) dX9_readyToLook_13 (by decide) (fun hz => absurd hz (show ¬ _ from (by decide))) (fun _ => ?_)
  refine r_aload_n dX9_readyToLook_16 rfl ?_
  refine r_getR dX9_readyToLook_17 fl_X9_54 rfl c0 (by rw [P1o]; exact e10) ?_
  refine r_getI dX9_readyToLook_20 fl_X9_186 rfl q41.1 ?_
  rw [g7']
  refine r_bipush (v := nI 40) dX9_readyToLook_23 (by decide) ?_
  refine r_icmp_le (tgt := 30) dX9_readyToLook_25 (by decide) (fun _ => ?_) (fun hz => absurd (show _ from (by decide)) hz)
  refine r_aload_n dX9_readyToLook_30 rfl ?_
  refine r_getR dX9_readyToLook_31 fl_X9_71 rfl c0 (by rw [P1o]; exact e13) ?_
  refine r_aload_n dX9_readyToLook_34 rfl ?_
  refine r_getR dX9_readyToLook_35 fl_X9_54 rfl c0 (by rw [P1o]; exact e10) ?_
  refine r_aload_n dX9_readyToLook_38 rfl ?_
  refine r_getR dX9_readyToLook_39 fl_X9_27 rfl c0 (by rw [P1o]; exact e4) ?_
  refine r_getI dX9_readyToLook_42 fl_X9_124 rfl s3.1 ?_
  rw [show I1 (o + 3) 0 = nI 0 from by rw [g1 (o + 3) (by omega) (by omega) (by omega), f3.1]; rfl]
  refine r_virt (c_X3_prepare (o + 56) (o + 41) 1 0 (fun _ _ => 0) (by unfold kG at g56 ⊢; rw [g4 (o + 56) (by omega)]; exact g56) q41.1 (by rw [g5 7 (by decide) (by decide)]; exact q41.2.2.2.2.2.2.2.2.2.1) q41.2.2.2.2.1 (by omega) (by omega) (by decide) (by decide) (fun i h _ hh => absurd hh (by omega)) (fun i h _ hh => absurd hh (by omega)) g7') lk_X9_372 mc_X3_prepare dX9_readyToLook_45 g56.1 (by decide) rfl rfl (Nat.le_of_ble_eq_true rfl) (Nat.le_of_eq (Nat.zero_add _)) (Nat.le_of_eq (Nat.zero_add _)) (fun _ _ _ _ _ _ hx => by obtain ⟨_, _, hx⟩ := hx; exact nomatch hx.1) ?_
  rintro v n2 kd2 I2 J2 P2 ⟨A, -, h0, rfl, rfl, rfl, rfl, rfl⟩
  cases h0
  simp only [Option.toList, List.nil_append]
  refine r_iconst (v := nI 1) dX9_readyToLook_48 (by decide) ?_
  refine r_zret rfl dX9_readyToLook_49 (by first | exact Or.inl rfl | exact Or.inr rfl | assumption) ?_
  have hp : ∀ a, a ≠ o + 56 → pI I1 (o + 56) 0 1 a = I1 a := fun a ha => by unfold pI; rw [am_up_n _ _ ha]
  refine ⟨rfl, rfl, rfl, fun a ha => ⟨?_, ?_, g4 a (by omega)⟩, g4, pI_0 _ _ _ _, pI_1 _ _ _ _, by rw [hp (o + 41) (by omega)]; exact g7'⟩
  · rw [hp a (by omega)]; exact g1 a (by omega) (by omega) (by omega)
  · rw [am_up_n _ _ (by omega)]; exact g3 a (by omega)

theorem dX3_tellsApart_0 : decode cX3_tellsApart 0 = .ok (.aload_n 0, 1) := by decide +kernel
theorem dX3_tellsApart_1 : decode cX3_tellsApart 1 = .ok (.invokevirtual 44, 3) := by decide +kernel
theorem dX3_tellsApart_4 : decode cX3_tellsApart 4 = .ok (.lstore_n 3, 1) := by decide +kernel
theorem dX3_tellsApart_5 : decode cX3_tellsApart 5 = .ok (.iconst 0, 1) := by decide +kernel
theorem dX3_tellsApart_6 : decode cX3_tellsApart 6 = .ok (.istore 5, 2) := by decide +kernel
theorem dX3_tellsApart_8 : decode cX3_tellsApart 8 = .ok (.iload 5, 2) := by decide +kernel
theorem dX3_tellsApart_10 : decode cX3_tellsApart 10 = .ok (.aload_n 0, 1) := by decide +kernel
theorem dX3_tellsApart_11 : decode cX3_tellsApart 11 = .ok (.getfield 9, 3) := by decide +kernel
theorem dX3_tellsApart_14 : decode cX3_tellsApart 14 = .ok (.if_icmp .ge 33, 3) := by decide +kernel
theorem dX3_tellsApart_17 : decode cX3_tellsApart 17 = .ok (.iload_n 1, 1) := by decide +kernel
theorem dX3_tellsApart_18 : decode cX3_tellsApart 18 = .ok (.iload 5, 2) := by decide +kernel
theorem dX3_tellsApart_20 : decode cX3_tellsApart 20 = .ok (.ishr, 1) := by decide +kernel
theorem dX3_tellsApart_21 : decode cX3_tellsApart 21 = .ok (.iconst 1, 1) := by decide +kernel
theorem dX3_tellsApart_22 : decode cX3_tellsApart 22 = .ok (.iand, 1) := by decide +kernel
theorem dX3_tellsApart_23 : decode cX3_tellsApart 23 = .ok (.ifCond .eq 18, 3) := by decide +kernel
theorem dX3_tellsApart_26 : decode cX3_tellsApart 26 = .ok (.lload_n 3, 1) := by decide +kernel
theorem dX3_tellsApart_27 : decode cX3_tellsApart 27 = .ok (.aload_n 0, 1) := by decide +kernel
theorem dX3_tellsApart_28 : decode cX3_tellsApart 28 = .ok (.getfield 18, 3) := by decide +kernel
theorem dX3_tellsApart_31 : decode cX3_tellsApart 31 = .ok (.iload 5, 2) := by decide +kernel
theorem dX3_tellsApart_33 : decode cX3_tellsApart 33 = .ok (.bipush 40, 2) := by decide +kernel
theorem dX3_tellsApart_35 : decode cX3_tellsApart 35 = .ok (.imul, 1) := by decide +kernel
theorem dX3_tellsApart_36 : decode cX3_tellsApart 36 = .ok (.iload_n 2, 1) := by decide +kernel
theorem dX3_tellsApart_37 : decode cX3_tellsApart 37 = .ok (.iadd, 1) := by decide +kernel
theorem dX3_tellsApart_38 : decode cX3_tellsApart 38 = .ok (.laload, 1) := by decide +kernel
theorem dX3_tellsApart_39 : decode cX3_tellsApart 39 = .ok (.land, 1) := by decide +kernel
theorem dX3_tellsApart_40 : decode cX3_tellsApart 40 = .ok (.lstore_n 3, 1) := by decide +kernel
theorem dX3_tellsApart_41 : decode cX3_tellsApart 41 = .ok (.iinc 5 1, 3) := by decide +kernel
theorem dX3_tellsApart_44 : decode cX3_tellsApart 44 = .ok (.goto (-36), 3) := by decide +kernel
theorem dX3_tellsApart_47 : decode cX3_tellsApart 47 = .ok (.lload_n 3, 1) := by decide +kernel
theorem dX3_tellsApart_48 : decode cX3_tellsApart 48 = .ok (.lconst 1, 1) := by decide +kernel
theorem dX3_tellsApart_49 : decode cX3_tellsApart 49 = .ok (.iload_n 2, 1) := by decide +kernel
theorem dX3_tellsApart_50 : decode cX3_tellsApart 50 = .ok (.lshl, 1) := by decide +kernel
theorem dX3_tellsApart_51 : decode cX3_tellsApart 51 = .ok (.lcmp, 1) := by decide +kernel
theorem dX3_tellsApart_52 : decode cX3_tellsApart 52 = .ok (.ifCond .ne 7, 3) := by decide +kernel
theorem dX3_tellsApart_55 : decode cX3_tellsApart 55 = .ok (.iconst 1, 1) := by decide +kernel
theorem dX3_tellsApart_56 : decode cX3_tellsApart 56 = .ok (.goto 4, 3) := by decide +kernel
theorem dX3_tellsApart_59 : decode cX3_tellsApart 59 = .ok (.iconst 0, 1) := by decide +kernel
theorem dX3_tellsApart_60 : decode cX3_tellsApart 60 = .ok (.ireturn, 1) := by decide +kernel
set_option maxHeartbeats 4000000 in
set_option maxRecDepth 100000 in
theorem c_ta0 (k : Nat) {n : Nat} {kd : mK} {I : mI} {J : mJ} {P : mP} (hG : kG kd P k) (e0 : I k 0 = nI 0) (e1 : I k 1 = nI 1) : Ct yX3_tellsApart cX3_tellsApart 6 (some .boolean) 2 0 0 [.ref k, .int (nI 0), .int (nI 0)] n kd I J P (am_is (some (.int (nI 1))) n kd I J P) := by
  refine ct_of 3 (by decide +kernel) (Nat.le_of_ble_eq_true rfl) rfl ?_
  refine r_aload_n dX3_tellsApart_0 rfl ?_
  refine r_virtE (c_X3_allNumberings k 1 hG (by decide) e1) lk_X3_44 mc_X3_allNumberings dX3_tellsApart_1 hG.1 (by decide) rfl rfl (Nat.le_of_ble_eq_true rfl) ?_
  refine r_lstore_n dX3_tellsApart_4 (by decide) ?_
  refine r_iconst (v := nI 0) dX3_tellsApart_5 (by decide) ?_
  refine r_istore dX3_tellsApart_6 (by decide) ?_
  refine r_iload dX3_tellsApart_8 rfl ?_
  refine r_aload_n dX3_tellsApart_10 rfl ?_
  refine r_getI dX3_tellsApart_11 fl_X3_9 rfl hG.1 ?_
  rw [e0]
  refine r_icmp_ge (tgt := 47) dX3_tellsApart_14 (by decide) (fun _ => ?_) (fun hz => absurd (show _ from (by decide)) hz)
  refine r_lload_n dX3_tellsApart_47 rfl ?_
  refine r_lconst (v := 1) dX3_tellsApart_48 (by decide) ?_
  refine r_iload_n dX3_tellsApart_49 rfl ?_
  refine r_lshl dX3_tellsApart_50 ?_
  refine r_lcmp dX3_tellsApart_51 ?_
  refine r_if_ne (tgt := 59) dX3_tellsApart_52 (by decide) (fun hz => absurd (show _ from (by decide)) hz) (fun _ => ?_)
  refine r_iconst (v := nI 1) dX3_tellsApart_55 (by decide) ?_
  refine r_goto (tgt := 60) dX3_tellsApart_56 (by decide) ?_
  refine r_zret rfl dX3_tellsApart_60 (by first | exact Or.inl rfl | exact Or.inr rfl | assumption) ?_
  exact am_is.mk

theorem dX3_tellsAllApart_0 : decode cX3_tellsAllApart 0 = .ok (.iconst 0, 1) := by decide +kernel
theorem dX3_tellsAllApart_1 : decode cX3_tellsAllApart 1 = .ok (.istore_n 2, 1) := by decide +kernel
theorem dX3_tellsAllApart_2 : decode cX3_tellsAllApart 2 = .ok (.iload_n 2, 1) := by decide +kernel
theorem dX3_tellsAllApart_3 : decode cX3_tellsAllApart 3 = .ok (.aload_n 0, 1) := by decide +kernel
theorem dX3_tellsAllApart_4 : decode cX3_tellsAllApart 4 = .ok (.getfield 15, 3) := by decide +kernel
theorem dX3_tellsAllApart_7 : decode cX3_tellsAllApart 7 = .ok (.if_icmp .ge 20, 3) := by decide +kernel
theorem dX3_tellsAllApart_10 : decode cX3_tellsAllApart 10 = .ok (.aload_n 0, 1) := by decide +kernel
theorem dX3_tellsAllApart_11 : decode cX3_tellsAllApart 11 = .ok (.iload_n 1, 1) := by decide +kernel
theorem dX3_tellsAllApart_12 : decode cX3_tellsAllApart 12 = .ok (.iload_n 2, 1) := by decide +kernel
theorem dX3_tellsAllApart_13 : decode cX3_tellsAllApart 13 = .ok (.invokevirtual 67, 3) := by decide +kernel
theorem dX3_tellsAllApart_16 : decode cX3_tellsAllApart 16 = .ok (.ifCond .ne 5, 3) := by decide +kernel
theorem dX3_tellsAllApart_19 : decode cX3_tellsAllApart 19 = .ok (.iconst 0, 1) := by decide +kernel
theorem dX3_tellsAllApart_20 : decode cX3_tellsAllApart 20 = .ok (.ireturn, 1) := by decide +kernel
theorem dX3_tellsAllApart_21 : decode cX3_tellsAllApart 21 = .ok (.iinc 2 1, 3) := by decide +kernel
theorem dX3_tellsAllApart_24 : decode cX3_tellsAllApart 24 = .ok (.goto (-22), 3) := by decide +kernel
theorem dX3_tellsAllApart_27 : decode cX3_tellsAllApart 27 = .ok (.iconst 1, 1) := by decide +kernel
theorem dX3_tellsAllApart_28 : decode cX3_tellsAllApart 28 = .ok (.ireturn, 1) := by decide +kernel
set_option maxHeartbeats 4000000 in
set_option maxRecDepth 100000 in
theorem c_taa0 (k : Nat) {n : Nat} {kd : mK} {I : mI} {J : mJ} {P : mP} (hG : kG kd P k) (e0 : I k 0 = nI 0) (e1 : I k 1 = nI 1) : Ct yX3_tellsAllApart cX3_tellsAllApart 3 (some .boolean) 3 0 0 [.ref k, .int (nI 0)] n kd I J P (am_is (some (.int (nI 1))) n kd I J P) := by
  refine ct_of 1 (by decide +kernel) (Nat.le_of_ble_eq_true rfl) rfl ?_
  refine r_iconst (v := nI 0) dX3_tellsAllApart_0 (by decide) ?_
  refine r_istore_n dX3_tellsAllApart_1 (by decide) ?_
  refine r_iload_n dX3_tellsAllApart_2 rfl ?_
  refine r_aload_n dX3_tellsAllApart_3 rfl ?_
  refine r_getI dX3_tellsAllApart_4 fl_X3_15 rfl hG.1 ?_
  rw [e1]
  refine r_icmp_ge (tgt := 27) dX3_tellsAllApart_7 (by decide) (fun hz => absurd hz (show ¬ _ from (by decide))) (fun _ => ?_)
  refine r_aload_n dX3_tellsAllApart_10 rfl ?_
  refine r_iload_n dX3_tellsAllApart_11 rfl ?_
  refine r_iload_n dX3_tellsAllApart_12 rfl ?_
  refine r_virtE (c_ta0 k hG e0 e1) lk_X3_67 mc_X3_tellsApart dX3_tellsAllApart_13 hG.1 (by decide) rfl rfl (Nat.le_of_ble_eq_true rfl) ?_
  refine r_if_ne (tgt := 21) dX3_tellsAllApart_16 (by decide) (fun _ => ?_) (fun hz => absurd hz (show ¬ _ from (by decide)))
  refine r_iinc (v := nI 1) dX3_tellsAllApart_21 rfl (by decide) ?_
  refine r_goto (tgt := 2) dX3_tellsAllApart_24 (by decide) ?_
  refine r_iload_n dX3_tellsAllApart_2 rfl ?_
  refine r_aload_n dX3_tellsAllApart_3 rfl ?_
  refine r_getI dX3_tellsAllApart_4 fl_X3_15 rfl hG.1 ?_
  rw [e1]
  refine r_icmp_ge (tgt := 27) dX3_tellsAllApart_7 (by decide) (fun _ => ?_) (fun hz => absurd (show _ from (by decide)) hz)
  refine r_iconst (v := nI 1) dX3_tellsAllApart_27 (by decide) ?_
  refine r_zret rfl dX3_tellsAllApart_28 (by first | exact Or.inl rfl | exact Or.inr rfl | assumption) ?_
  exact am_is.mk

theorem dX3_doorsAtOnce_0 : decode cX3_doorsAtOnce 0 = .ok (.iconst 0, 1) := by decide +kernel
theorem dX3_doorsAtOnce_1 : decode cX3_doorsAtOnce 1 = .ok (.istore_n 1, 1) := by decide +kernel
theorem dX3_doorsAtOnce_2 : decode cX3_doorsAtOnce 2 = .ok (.iload_n 1, 1) := by decide +kernel
theorem dX3_doorsAtOnce_3 : decode cX3_doorsAtOnce 3 = .ok (.aload_n 0, 1) := by decide +kernel
theorem dX3_doorsAtOnce_4 : decode cX3_doorsAtOnce 4 = .ok (.getfield 9, 3) := by decide +kernel
theorem dX3_doorsAtOnce_7 : decode cX3_doorsAtOnce 7 = .ok (.if_icmp .gt 45, 3) := by decide +kernel
theorem dX3_doorsAtOnce_10 : decode cX3_doorsAtOnce 10 = .ok (.iconst 0, 1) := by decide +kernel
theorem dX3_doorsAtOnce_11 : decode cX3_doorsAtOnce 11 = .ok (.istore_n 2, 1) := by decide +kernel
theorem dX3_doorsAtOnce_12 : decode cX3_doorsAtOnce 12 = .ok (.iload_n 2, 1) := by decide +kernel
theorem dX3_doorsAtOnce_13 : decode cX3_doorsAtOnce 13 = .ok (.iconst 1, 1) := by decide +kernel
theorem dX3_doorsAtOnce_14 : decode cX3_doorsAtOnce 14 = .ok (.aload_n 0, 1) := by decide +kernel
theorem dX3_doorsAtOnce_15 : decode cX3_doorsAtOnce 15 = .ok (.getfield 9, 3) := by decide +kernel
theorem dX3_doorsAtOnce_18 : decode cX3_doorsAtOnce 18 = .ok (.ishl, 1) := by decide +kernel
theorem dX3_doorsAtOnce_19 : decode cX3_doorsAtOnce 19 = .ok (.if_icmp .ge 27, 3) := by decide +kernel
theorem dX3_doorsAtOnce_22 : decode cX3_doorsAtOnce 22 = .ok (.iload_n 2, 1) := by decide +kernel
theorem dX3_doorsAtOnce_23 : decode cX3_doorsAtOnce 23 = .ok (.invokestatic 71, 3) := by decide +kernel
theorem dX3_doorsAtOnce_26 : decode cX3_doorsAtOnce 26 = .ok (.iload_n 1, 1) := by decide +kernel
theorem dX3_doorsAtOnce_27 : decode cX3_doorsAtOnce 27 = .ok (.if_icmp .ne 13, 3) := by decide +kernel
theorem dX3_doorsAtOnce_30 : decode cX3_doorsAtOnce 30 = .ok (.aload_n 0, 1) := by decide +kernel
theorem dX3_doorsAtOnce_31 : decode cX3_doorsAtOnce 31 = .ok (.iload_n 2, 1) := by decide +kernel
theorem dX3_doorsAtOnce_32 : decode cX3_doorsAtOnce 32 = .ok (.invokevirtual 77, 3) := by decide +kernel
theorem dX3_doorsAtOnce_35 : decode cX3_doorsAtOnce 35 = .ok (.ifCond .eq 5, 3) := by decide +kernel
theorem dX3_doorsAtOnce_38 : decode cX3_doorsAtOnce 38 = .ok (.iload_n 2, 1) := by decide +kernel
theorem dX3_doorsAtOnce_39 : decode cX3_doorsAtOnce 39 = .ok (.ireturn, 1) := by decide +kernel
theorem dX3_doorsAtOnce_40 : decode cX3_doorsAtOnce 40 = .ok (.iinc 2 1, 3) := by decide +kernel
theorem dX3_doorsAtOnce_43 : decode cX3_doorsAtOnce 43 = .ok (.goto (-31), 3) := by decide +kernel
theorem dX3_doorsAtOnce_46 : decode cX3_doorsAtOnce 46 = .ok (.iinc 1 1, 3) := by decide +kernel
theorem dX3_doorsAtOnce_49 : decode cX3_doorsAtOnce 49 = .ok (.goto (-47), 3) := by decide +kernel
theorem dX3_doorsAtOnce_52 : decode cX3_doorsAtOnce 52 = .ok (.iconst (-1), 1) := by decide +kernel
theorem dX3_doorsAtOnce_53 : decode cX3_doorsAtOnce 53 = .ok (.ireturn, 1) := by decide +kernel
set_option maxHeartbeats 4000000 in
set_option maxRecDepth 100000 in
theorem c_dao0 (k : Nat) {n : Nat} {kd : mK} {I : mI} {J : mJ} {P : mP} (hG : kG kd P k) (e0 : I k 0 = nI 0) (e1 : I k 1 = nI 1) : Ct yX3_doorsAtOnce cX3_doorsAtOnce 3 (some .int) 4 0 0 [.ref k] n kd I J P (am_is (some (.int (nI 0))) n kd I J P) := by
  refine ct_of 2 (by decide +kernel) (Nat.le_of_ble_eq_true rfl) rfl ?_
  refine r_iconst (v := nI 0) dX3_doorsAtOnce_0 (by decide) ?_
  refine r_istore_n dX3_doorsAtOnce_1 (by decide) ?_
  refine r_iload_n dX3_doorsAtOnce_2 rfl ?_
  refine r_aload_n dX3_doorsAtOnce_3 rfl ?_
  refine r_getI dX3_doorsAtOnce_4 fl_X3_9 rfl hG.1 ?_
  rw [e0]
  refine r_icmp_gt (tgt := 52) dX3_doorsAtOnce_7 (by decide) (fun hz => absurd hz (show ¬ _ from (by decide))) (fun _ => ?_)
  refine r_iconst (v := nI 0) dX3_doorsAtOnce_10 (by decide) ?_
  refine r_istore_n dX3_doorsAtOnce_11 (by decide) ?_
  refine r_iload_n dX3_doorsAtOnce_12 rfl ?_
  refine r_iconst (v := nI 1) dX3_doorsAtOnce_13 (by decide) ?_
  refine r_aload_n dX3_doorsAtOnce_14 rfl ?_
  refine r_getI dX3_doorsAtOnce_15 fl_X3_9 rfl hG.1 ?_
  rw [e0]
  refine r_ishl dX3_doorsAtOnce_18 ?_
  refine r_icmp_ge (tgt := 46) dX3_doorsAtOnce_19 (by decide) (fun hz => absurd hz (show ¬ _ from (by decide))) (fun _ => ?_)
  refine r_iload_n dX3_doorsAtOnce_22 rfl ?_
  refine r_statE (c_J6_bitCount_0f7a4 (nI 0)) lk_X3_71 mc_J6_bitCount_0f7a4 dX3_doorsAtOnce_23 (by decide) rfl rfl (Nat.le_of_ble_eq_true rfl) ?_
  refine r_iload_n dX3_doorsAtOnce_26 rfl ?_
  refine r_icmp_ne (tgt := 40) dX3_doorsAtOnce_27 (by decide) (fun hz => absurd (show _ from (by decide)) hz) (fun _ => ?_)
  refine r_aload_n dX3_doorsAtOnce_30 rfl ?_
  refine r_iload_n dX3_doorsAtOnce_31 rfl ?_
  refine r_virtE (c_taa0 k hG e0 e1) lk_X3_77 mc_X3_tellsAllApart dX3_doorsAtOnce_32 hG.1 (by decide) rfl rfl (Nat.le_of_ble_eq_true rfl) ?_
  refine r_if_eq (tgt := 40) dX3_doorsAtOnce_35 (by decide) (fun hz => absurd hz (show ¬ _ from (by decide))) (fun _ => ?_)
  refine r_iload_n dX3_doorsAtOnce_38 rfl ?_
  refine r_iret rfl dX3_doorsAtOnce_39 ?_
  exact am_is.mk

theorem dX3_hintsFor_0 : decode cX3_hintsFor 0 = .ok (.iconst 0, 1) := by decide +kernel
theorem dX3_hintsFor_1 : decode cX3_hintsFor 1 = .ok (.istore_n 2, 1) := by decide +kernel
theorem dX3_hintsFor_2 : decode cX3_hintsFor 2 = .ok (.iload_n 2, 1) := by decide +kernel
theorem dX3_hintsFor_3 : decode cX3_hintsFor 3 = .ok (.aload_n 0, 1) := by decide +kernel
theorem dX3_hintsFor_4 : decode cX3_hintsFor 4 = .ok (.getfield 9, 3) := by decide +kernel
theorem dX3_hintsFor_7 : decode cX3_hintsFor 7 = .ok (.if_icmp .gt 46, 3) := by decide +kernel
theorem dX3_hintsFor_10 : decode cX3_hintsFor 10 = .ok (.iconst 0, 1) := by decide +kernel
theorem dX3_hintsFor_11 : decode cX3_hintsFor 11 = .ok (.istore_n 3, 1) := by decide +kernel
theorem dX3_hintsFor_12 : decode cX3_hintsFor 12 = .ok (.iload_n 3, 1) := by decide +kernel
theorem dX3_hintsFor_13 : decode cX3_hintsFor 13 = .ok (.iconst 1, 1) := by decide +kernel
theorem dX3_hintsFor_14 : decode cX3_hintsFor 14 = .ok (.aload_n 0, 1) := by decide +kernel
theorem dX3_hintsFor_15 : decode cX3_hintsFor 15 = .ok (.getfield 9, 3) := by decide +kernel
theorem dX3_hintsFor_18 : decode cX3_hintsFor 18 = .ok (.ishl, 1) := by decide +kernel
theorem dX3_hintsFor_19 : decode cX3_hintsFor 19 = .ok (.if_icmp .ge 28, 3) := by decide +kernel
theorem dX3_hintsFor_22 : decode cX3_hintsFor 22 = .ok (.iload_n 3, 1) := by decide +kernel
theorem dX3_hintsFor_23 : decode cX3_hintsFor 23 = .ok (.invokestatic 71, 3) := by decide +kernel
theorem dX3_hintsFor_26 : decode cX3_hintsFor 26 = .ok (.iload_n 2, 1) := by decide +kernel
theorem dX3_hintsFor_27 : decode cX3_hintsFor 27 = .ok (.if_icmp .ne 14, 3) := by decide +kernel
theorem dX3_hintsFor_30 : decode cX3_hintsFor 30 = .ok (.aload_n 0, 1) := by decide +kernel
theorem dX3_hintsFor_31 : decode cX3_hintsFor 31 = .ok (.iload_n 3, 1) := by decide +kernel
theorem dX3_hintsFor_32 : decode cX3_hintsFor 32 = .ok (.iload_n 1, 1) := by decide +kernel
theorem dX3_hintsFor_33 : decode cX3_hintsFor 33 = .ok (.invokevirtual 67, 3) := by decide +kernel
theorem dX3_hintsFor_36 : decode cX3_hintsFor 36 = .ok (.ifCond .eq 5, 3) := by decide +kernel
theorem dX3_hintsFor_39 : decode cX3_hintsFor 39 = .ok (.iload_n 3, 1) := by decide +kernel
theorem dX3_hintsFor_40 : decode cX3_hintsFor 40 = .ok (.ireturn, 1) := by decide +kernel
theorem dX3_hintsFor_41 : decode cX3_hintsFor 41 = .ok (.iinc 3 1, 3) := by decide +kernel
theorem dX3_hintsFor_44 : decode cX3_hintsFor 44 = .ok (.goto (-32), 3) := by decide +kernel
theorem dX3_hintsFor_47 : decode cX3_hintsFor 47 = .ok (.iinc 2 1, 3) := by decide +kernel
theorem dX3_hintsFor_50 : decode cX3_hintsFor 50 = .ok (.goto (-48), 3) := by decide +kernel
theorem dX3_hintsFor_53 : decode cX3_hintsFor 53 = .ok (.iconst (-1), 1) := by decide +kernel
theorem dX3_hintsFor_54 : decode cX3_hintsFor 54 = .ok (.ireturn, 1) := by decide +kernel
set_option maxHeartbeats 4000000 in
set_option maxRecDepth 100000 in
theorem c_hf0 (k : Nat) {n : Nat} {kd : mK} {I : mI} {J : mJ} {P : mP} (hG : kG kd P k) (e0 : I k 0 = nI 0) (e1 : I k 1 = nI 1) : Ct yX3_hintsFor cX3_hintsFor 4 (some .int) 4 0 0 [.ref k, .int (nI 0)] n kd I J P (am_is (some (.int (nI 0))) n kd I J P) := by
  refine ct_of 2 (by decide +kernel) (Nat.le_of_ble_eq_true rfl) rfl ?_
  refine r_iconst (v := nI 0) dX3_hintsFor_0 (by decide) ?_
  refine r_istore_n dX3_hintsFor_1 (by decide) ?_
  refine r_iload_n dX3_hintsFor_2 rfl ?_
  refine r_aload_n dX3_hintsFor_3 rfl ?_
  refine r_getI dX3_hintsFor_4 fl_X3_9 rfl hG.1 ?_
  rw [e0]
  refine r_icmp_gt (tgt := 53) dX3_hintsFor_7 (by decide) (fun hz => absurd hz (show ¬ _ from (by decide))) (fun _ => ?_)
  refine r_iconst (v := nI 0) dX3_hintsFor_10 (by decide) ?_
  refine r_istore_n dX3_hintsFor_11 (by decide) ?_
  refine r_iload_n dX3_hintsFor_12 rfl ?_
  refine r_iconst (v := nI 1) dX3_hintsFor_13 (by decide) ?_
  refine r_aload_n dX3_hintsFor_14 rfl ?_
  refine r_getI dX3_hintsFor_15 fl_X3_9 rfl hG.1 ?_
  rw [e0]
  refine r_ishl dX3_hintsFor_18 ?_
  refine r_icmp_ge (tgt := 47) dX3_hintsFor_19 (by decide) (fun hz => absurd hz (show ¬ _ from (by decide))) (fun _ => ?_)
  refine r_iload_n dX3_hintsFor_22 rfl ?_
  refine r_statE (c_J6_bitCount_0f7a4 (nI 0)) lk_X3_71 mc_J6_bitCount_0f7a4 dX3_hintsFor_23 (by decide) rfl rfl (Nat.le_of_ble_eq_true rfl) ?_
  refine r_iload_n dX3_hintsFor_26 rfl ?_
  refine r_icmp_ne (tgt := 41) dX3_hintsFor_27 (by decide) (fun hz => absurd (show _ from (by decide)) hz) (fun _ => ?_)
  refine r_aload_n dX3_hintsFor_30 rfl ?_
  refine r_iload_n dX3_hintsFor_31 rfl ?_
  refine r_iload_n dX3_hintsFor_32 rfl ?_
  refine r_virtE (c_ta0 k hG e0 e1) lk_X3_67 mc_X3_tellsApart dX3_hintsFor_33 hG.1 (by decide) rfl rfl (Nat.le_of_ble_eq_true rfl) ?_
  refine r_if_eq (tgt := 41) dX3_hintsFor_36 (by decide) (fun hz => absurd hz (show ¬ _ from (by decide))) (fun _ => ?_)
  refine r_iload_n dX3_hintsFor_39 rfl ?_
  refine r_iret rfl dX3_hintsFor_40 ?_
  exact am_is.mk

theorem dX3_firstDoor_0 : decode cX3_firstDoor 0 = .ok (.iconst 0, 1) := by decide +kernel
theorem dX3_firstDoor_1 : decode cX3_firstDoor 1 = .ok (.istore_n 2, 1) := by decide +kernel
theorem dX3_firstDoor_2 : decode cX3_firstDoor 2 = .ok (.iload_n 2, 1) := by decide +kernel
theorem dX3_firstDoor_3 : decode cX3_firstDoor 3 = .ok (.aload_n 0, 1) := by decide +kernel
theorem dX3_firstDoor_4 : decode cX3_firstDoor 4 = .ok (.getfield 9, 3) := by decide +kernel
theorem dX3_firstDoor_7 : decode cX3_firstDoor 7 = .ok (.if_icmp .ge 31, 3) := by decide +kernel
theorem dX3_firstDoor_10 : decode cX3_firstDoor 10 = .ok (.iload_n 1, 1) := by decide +kernel
theorem dX3_firstDoor_11 : decode cX3_firstDoor 11 = .ok (.ifCond .le 27, 3) := by decide +kernel
theorem dX3_firstDoor_14 : decode cX3_firstDoor 14 = .ok (.iconst 1, 1) := by decide +kernel
theorem dX3_firstDoor_15 : decode cX3_firstDoor 15 = .ok (.aload_n 0, 1) := by decide +kernel
theorem dX3_firstDoor_16 : decode cX3_firstDoor 16 = .ok (.iload_n 2, 1) := by decide +kernel
theorem dX3_firstDoor_17 : decode cX3_firstDoor 17 = .ok (.aload_n 0, 1) := by decide +kernel
theorem dX3_firstDoor_18 : decode cX3_firstDoor 18 = .ok (.invokevirtual 44, 3) := by decide +kernel
theorem dX3_firstDoor_21 : decode cX3_firstDoor 21 = .ok (.iconst 0, 1) := by decide +kernel
theorem dX3_firstDoor_22 : decode cX3_firstDoor 22 = .ok (.invokevirtual 52, 3) := by decide +kernel
theorem dX3_firstDoor_25 : decode cX3_firstDoor 25 = .ok (.iadd, 1) := by decide +kernel
theorem dX3_firstDoor_26 : decode cX3_firstDoor 26 = .ok (.iload_n 1, 1) := by decide +kernel
theorem dX3_firstDoor_27 : decode cX3_firstDoor 27 = .ok (.if_icmp .ne 5, 3) := by decide +kernel
theorem dX3_firstDoor_30 : decode cX3_firstDoor 30 = .ok (.iload_n 2, 1) := by decide +kernel
theorem dX3_firstDoor_31 : decode cX3_firstDoor 31 = .ok (.ireturn, 1) := by decide +kernel
theorem dX3_firstDoor_32 : decode cX3_firstDoor 32 = .ok (.iinc 2 1, 3) := by decide +kernel
theorem dX3_firstDoor_35 : decode cX3_firstDoor 35 = .ok (.goto (-33), 3) := by decide +kernel
theorem dX3_firstDoor_38 : decode cX3_firstDoor 38 = .ok (.iconst (-1), 1) := by decide +kernel
theorem dX3_firstDoor_39 : decode cX3_firstDoor 39 = .ok (.ireturn, 1) := by decide +kernel
set_option maxHeartbeats 4000000 in
set_option maxRecDepth 100000 in
theorem c_fd0 (k : Nat) {n : Nat} {kd : mK} {I : mI} {J : mJ} {P : mP} (hG : kG kd P k) (e0 : I k 0 = nI 0) (e1 : I k 1 = nI 1) : Ct yX3_firstDoor cX3_firstDoor 3 (some .int) 4 0 0 [.ref k, .int (nI 0)] n kd I J P (am_is (some (.int (-1))) n kd I J P) := by
  refine ct_of 1 (by decide +kernel) (Nat.le_of_ble_eq_true rfl) rfl ?_
  refine r_iconst (v := nI 0) dX3_firstDoor_0 (by decide) ?_
  refine r_istore_n dX3_firstDoor_1 (by decide) ?_
  refine r_iload_n dX3_firstDoor_2 rfl ?_
  refine r_aload_n dX3_firstDoor_3 rfl ?_
  refine r_getI dX3_firstDoor_4 fl_X3_9 rfl hG.1 ?_
  rw [e0]
  refine r_icmp_ge (tgt := 38) dX3_firstDoor_7 (by decide) (fun _ => ?_) (fun hz => absurd (show _ from (by decide)) hz)
  refine r_iconst (v := (-1)) dX3_firstDoor_38 (by decide) ?_
  refine r_iret rfl dX3_firstDoor_39 ?_
  exact am_is.mk

theorem dX9_looks_0 : decode cX9_looks 0 = .ok (.aload_n 0, 1) := by decide +kernel
theorem dX9_looks_1 : decode cX9_looks 1 = .ok (.iload_n 1, 1) := by decide +kernel
theorem dX9_looks_2 : decode cX9_looks 2 = .ok (.iconst 2, 1) := by decide +kernel
theorem dX9_looks_3 : decode cX9_looks 3 = .ok (.invokevirtual 162, 3) := by decide +kernel
theorem dX9_looks_6 : decode cX9_looks 6 = .ok (.aload_n 0, 1) := by decide +kernel
theorem dX9_looks_7 : decode cX9_looks 7 = .ok (.invokevirtual 218, 3) := by decide +kernel
theorem dX9_looks_10 : decode cX9_looks 10 = .ok (.ifCond .ne 6, 3) := by decide +kernel
theorem dX9_looks_13 : decode cX9_looks 13 = .ok (.bipush (-2), 2) := by decide +kernel
theorem dX9_looks_15 : decode cX9_looks 15 = .ok (.ireturn, 1) := by decide +kernel
theorem dX9_looks_16 : decode cX9_looks 16 = .ok (.aload_n 0, 1) := by decide +kernel
theorem dX9_looks_17 : decode cX9_looks 17 = .ok (.getfield 71, 3) := by decide +kernel
theorem dX9_looks_20 : decode cX9_looks 20 = .ok (.invokevirtual 222, 3) := by decide +kernel
theorem dX9_looks_23 : decode cX9_looks 23 = .ok (.istore_n 2, 1) := by decide +kernel
theorem dX9_looks_24 : decode cX9_looks 24 = .ok (.iload_n 1, 1) := by decide +kernel
theorem dX9_looks_25 : decode cX9_looks 25 = .ok (.ifCond .ne 7, 3) := by decide +kernel
theorem dX9_looks_28 : decode cX9_looks 28 = .ok (.iload_n 2, 1) := by decide +kernel
theorem dX9_looks_29 : decode cX9_looks 29 = .ok (.goto 11, 3) := by decide +kernel
theorem dX9_looks_32 : decode cX9_looks 32 = .ok (.aload_n 0, 1) := by decide +kernel
theorem dX9_looks_33 : decode cX9_looks 33 = .ok (.getfield 71, 3) := by decide +kernel
theorem dX9_looks_36 : decode cX9_looks 36 = .ok (.iload_n 2, 1) := by decide +kernel
theorem dX9_looks_37 : decode cX9_looks 37 = .ok (.invokevirtual 226, 3) := by decide +kernel
theorem dX9_looks_40 : decode cX9_looks 40 = .ok (.ireturn, 1) := by decide +kernel

set_option maxHeartbeats 4000000 in
set_option maxRecDepth 100000 in
theorem p_looks_0 (o : Nat) {n : Nat} {kd : mK} {I : mI} {J : mJ} {P : mP} (hF : fsC o n kd I J P) : Ct yX9_looks cX9_looks 3 (some .int) 22 2 10246 [.ref o, .int (nI 0)] n kd I J P (pC o n kd I J P (.inl (some (.int (nI 0))))) := by
  have hF0 := hF
  obtain ⟨hX, hO, h12, hz, hn, f3, f13, f23, f29, f35, f41, f47, f56, f58, f61, f66, f67, f48⟩ := hF
  have hX0 := hX
  obtain ⟨⟨c0, c1, c2⟩, ⟨s3, s13⟩, ⟨l23, l29, l35⟩, ⟨q41, a47, g56, w58, r61, d66, p67⟩, ⟨e0, e3, e8, e10, e12, e13, e14, e15, e16, e17⟩, ⟨e4, e5, e6, e7⟩, hbs, hfl, ho⟩ := hX
  refine ct_of 1 (by decide +kernel) (Nat.le_of_ble_eq_true rfl) rfl ?_
  refine r_aload_n dX9_looks_0 rfl ?_
  refine r_iload_n dX9_looks_1 rfl ?_
  refine r_iconst (v := nI 2) dX9_looks_2 (by decide) ?_
  refine r_virtO (kc2 := 1) (ks2 := 10240) (by have h := c_X9_mustBeWhat (n := n) (kd := kd) (I := I) (J := J) (P := P) o (nI 0) (nI 2); rw [show (!decide (nI 0 < 0) && decide (nI 0 < nI 2)) = true from by decide] at h; exact h) lk_X9_162 mc_X9_mustBeWhat dX9_looks_3 c0 (by decide) rfl rfl (Nat.le_of_ble_eq_true rfl) (by decide) (by decide) ?_
  refine r_aload_n dX9_looks_6 rfl ?_
  refine r_virt (kc2 := 1) (ks2 := 10240) (c_ready0 o hF0) lk_X9_218 mc_X9_readyToLook dX9_looks_7 c0 (by decide) rfl rfl (Nat.le_of_ble_eq_true rfl) (by decide) (by decide) (fun _ _ _ _ _ _ h => nomatch h.1) ?_
  rintro v n1 kd1 I1 J1 P1 ⟨h0, rfl, rfl, hfr, hP, i0, i1, i41⟩
  cases h0
  simp only [Option.toList, List.cons_append, List.nil_append]
  have P1o : P1 o = P o := hP o (by omega)
  have g56' : kG kd1 P1 (o + 56) := by unfold kG at g56 ⊢; rw [hP (o + 56) (by omega)]; exact g56
  refine r_if_ne (tgt := 16) dX9_looks_10 (by decide) (fun _ => ?_) (fun hz => absurd hz (show ¬ _ from (by decide)))
  refine r_aload_n dX9_looks_16 rfl ?_
  refine r_getR dX9_looks_17 fl_X9_71 rfl c0 (by rw [P1o]; exact e13) ?_
  refine r_virt (kc2 := 0) (ks2 := 0) (c_fl_few (o + 56) 1 g56' i1 (by decide)) lk_X9_222 mc_X3_fewestLooks dX9_looks_20 g56.1 (by decide) rfl rfl (Nat.le_of_ble_eq_true rfl) (by decide) (by decide) (fun _ _ _ _ _ _ h => nomatch h.1) ?_
  rintro v n2 kd2 I2 J2 P2 ⟨h0, rfl, rfl, rfl, rfl, rfl⟩
  cases h0
  simp only [Option.toList, List.cons_append, List.nil_append]
  refine r_istore_n dX9_looks_23 (by decide) ?_
  refine r_iload_n dX9_looks_24 rfl ?_
  refine r_if_ne (tgt := 32) dX9_looks_25 (by decide) (fun hz => absurd (show _ from (by decide)) hz) (fun _ => ?_)
  refine r_iload_n dX9_looks_28 rfl ?_
  refine r_goto (tgt := 40) dX9_looks_29 (by decide) ?_
  refine r_iret rfl dX9_looks_40 ?_
  exact ⟨rfl, ⟨by omega, by omega⟩, fun a a1 _ => ⟨rfl, (hfr a a1).1, (hfr a a1).2.1, (hfr a a1).2.2⟩⟩

set_option maxHeartbeats 4000000 in
set_option maxRecDepth 100000 in
theorem p_looks_1 (o : Nat) {n : Nat} {kd : mK} {I : mI} {J : mJ} {P : mP} (hF : fsC o n kd I J P) : Ct yX9_looks cX9_looks 3 (some .int) 22 2 10246 [.ref o, .int (nI 1)] n kd I J P (pC o n kd I J P (.inl (some (.int (-1))))) := by
  have hF0 := hF
  obtain ⟨hX, hO, h12, hz, hn, f3, f13, f23, f29, f35, f41, f47, f56, f58, f61, f66, f67, f48⟩ := hF
  have hX0 := hX
  obtain ⟨⟨c0, c1, c2⟩, ⟨s3, s13⟩, ⟨l23, l29, l35⟩, ⟨q41, a47, g56, w58, r61, d66, p67⟩, ⟨e0, e3, e8, e10, e12, e13, e14, e15, e16, e17⟩, ⟨e4, e5, e6, e7⟩, hbs, hfl, ho⟩ := hX
  refine ct_of 1 (by decide +kernel) (Nat.le_of_ble_eq_true rfl) rfl ?_
  refine r_aload_n dX9_looks_0 rfl ?_
  refine r_iload_n dX9_looks_1 rfl ?_
  refine r_iconst (v := nI 2) dX9_looks_2 (by decide) ?_
  refine r_virtO (kc2 := 1) (ks2 := 10240) (by have h := c_X9_mustBeWhat (n := n) (kd := kd) (I := I) (J := J) (P := P) o (nI 1) (nI 2); rw [show (!decide (nI 1 < 0) && decide (nI 1 < nI 2)) = true from by decide] at h; exact h) lk_X9_162 mc_X9_mustBeWhat dX9_looks_3 c0 (by decide) rfl rfl (Nat.le_of_ble_eq_true rfl) (by decide) (by decide) ?_
  refine r_aload_n dX9_looks_6 rfl ?_
  refine r_virt (kc2 := 1) (ks2 := 10240) (c_ready0 o hF0) lk_X9_218 mc_X9_readyToLook dX9_looks_7 c0 (by decide) rfl rfl (Nat.le_of_ble_eq_true rfl) (by decide) (by decide) (fun _ _ _ _ _ _ h => nomatch h.1) ?_
  rintro v n1 kd1 I1 J1 P1 ⟨h0, rfl, rfl, hfr, hP, i0, i1, i41⟩
  cases h0
  simp only [Option.toList, List.cons_append, List.nil_append]
  have P1o : P1 o = P o := hP o (by omega)
  have g56' : kG kd1 P1 (o + 56) := by unfold kG at g56 ⊢; rw [hP (o + 56) (by omega)]; exact g56
  refine r_if_ne (tgt := 16) dX9_looks_10 (by decide) (fun _ => ?_) (fun hz => absurd hz (show ¬ _ from (by decide)))
  refine r_aload_n dX9_looks_16 rfl ?_
  refine r_getR dX9_looks_17 fl_X9_71 rfl c0 (by rw [P1o]; exact e13) ?_
  refine r_virt (kc2 := 0) (ks2 := 0) (c_fl_few (o + 56) 1 g56' i1 (by decide)) lk_X9_222 mc_X3_fewestLooks dX9_looks_20 g56.1 (by decide) rfl rfl (Nat.le_of_ble_eq_true rfl) (by decide) (by decide) (fun _ _ _ _ _ _ h => nomatch h.1) ?_
  rintro v n2 kd2 I2 J2 P2 ⟨h0, rfl, rfl, rfl, rfl, rfl⟩
  cases h0
  simp only [Option.toList, List.cons_append, List.nil_append]
  refine r_istore_n dX9_looks_23 (by decide) ?_
  refine r_iload_n dX9_looks_24 rfl ?_
  refine r_if_ne (tgt := 32) dX9_looks_25 (by decide) (fun _ => ?_) (fun hz => absurd hz (show ¬ _ from (by decide)))
  refine r_aload_n dX9_looks_32 rfl ?_
  refine r_getR dX9_looks_33 fl_X9_71 rfl c0 (by rw [P1o]; exact e13) ?_
  refine r_iload_n dX9_looks_36 rfl ?_
  refine r_virtE (c_fd0 (o + 56) g56' i0 i1) lk_X9_226 mc_X3_firstDoor dX9_looks_37 g56.1 (by decide) rfl rfl (Nat.le_of_ble_eq_true rfl) ?_
  refine r_iret rfl dX9_looks_40 ?_
  exact ⟨rfl, ⟨by omega, by omega⟩, fun a a1 _ => ⟨rfl, (hfr a a1).1, (hfr a a1).2.1, (hfr a a1).2.2⟩⟩

set_option maxHeartbeats 4000000 in
set_option maxRecDepth 100000 in
theorem p_looks_no (o : Nat) (x : Int32) {n : Nat} {kd : mK} {I : mI} {J : mJ} {P : mP} (hF : fsC o n kd I J P) (h0 : ¬ x = 0) (h1 : ¬ x = nI 1) : Ct yX9_looks cX9_looks 3 (some .int) 22 2 10246 [.ref o, .int (x)] n kd I J P (pC o n kd I J P (.inr "java/util/NoSuchElementException")) := by
  have hF0 := hF
  obtain ⟨hX, hO, h12, hz, hn, f3, f13, f23, f29, f35, f41, f47, f56, f58, f61, f66, f67, f48⟩ := hF
  have hX0 := hX
  obtain ⟨⟨c0, c1, c2⟩, ⟨s3, s13⟩, ⟨l23, l29, l35⟩, ⟨q41, a47, g56, w58, r61, d66, p67⟩, ⟨e0, e3, e8, e10, e12, e13, e14, e15, e16, e17⟩, ⟨e4, e5, e6, e7⟩, hbs, hfl, ho⟩ := hX
  refine ct_of 1 (by decide +kernel) (Nat.le_of_ble_eq_true rfl) rfl ?_
  refine r_aload_n dX9_looks_0 rfl ?_
  refine r_iload_n dX9_looks_1 rfl ?_
  refine r_iconst (v := nI 2) dX9_looks_2 (by decide) ?_
  refine r_virtX (v := none) (by have h := c_X9_mustBeWhat (n := n) (kd := kd) (I := I) (J := J) (P := P) o x (nI 2); rw [two_no h0 h1] at h; exact h) lk_X9_162 mc_X9_mustBeWhat dX9_looks_3 c0 (by decide) rfl rfl (Nat.le_of_ble_eq_true rfl) (by decide) (by decide) pC.eq

theorem dX9_doors_0 : decode cX9_doors 0 = .ok (.aload_n 0, 1) := by decide +kernel
theorem dX9_doors_1 : decode cX9_doors 1 = .ok (.invokevirtual 218, 3) := by decide +kernel
theorem dX9_doors_4 : decode cX9_doors 4 = .ok (.ifCond .eq 13, 3) := by decide +kernel
theorem dX9_doors_7 : decode cX9_doors 7 = .ok (.aload_n 0, 1) := by decide +kernel
theorem dX9_doors_8 : decode cX9_doors 8 = .ok (.getfield 71, 3) := by decide +kernel
theorem dX9_doors_11 : decode cX9_doors 11 = .ok (.invokevirtual 229, 3) := by decide +kernel
theorem dX9_doors_14 : decode cX9_doors 14 = .ok (.goto 5, 3) := by decide +kernel
theorem dX9_doors_17 : decode cX9_doors 17 = .ok (.bipush (-2), 2) := by decide +kernel
theorem dX9_doors_19 : decode cX9_doors 19 = .ok (.ireturn, 1) := by decide +kernel
set_option maxHeartbeats 4000000 in
set_option maxRecDepth 100000 in
theorem p_doors (o : Nat) {n : Nat} {kd : mK} {I : mI} {J : mJ} {P : mP} (hF : fsC o n kd I J P) : Ct yX9_doors cX9_doors 1 (some .int) 10 0 0 [.ref o] n kd I J P (pC o n kd I J P (.inl (some (.int (nI 0))))) := by
  have hF0 := hF
  obtain ⟨hX, hO, h12, hz, hn, f3, f13, f23, f29, f35, f41, f47, f56, f58, f61, f66, f67, f48⟩ := hF
  have hX0 := hX
  obtain ⟨⟨c0, c1, c2⟩, ⟨s3, s13⟩, ⟨l23, l29, l35⟩, ⟨q41, a47, g56, w58, r61, d66, p67⟩, ⟨e0, e3, e8, e10, e12, e13, e14, e15, e16, e17⟩, ⟨e4, e5, e6, e7⟩, hbs, hfl, ho⟩ := hX
  refine ct_of 0 (by decide +kernel) (Nat.le_of_ble_eq_true rfl) rfl ?_
  refine r_aload_n dX9_doors_0 rfl ?_
  refine r_virt (c_ready0 o hF0) lk_X9_218 mc_X9_readyToLook dX9_doors_1 c0 (by decide) rfl rfl (Nat.le_of_ble_eq_true rfl) (Nat.le_of_eq (Nat.zero_add _)) (Nat.le_of_eq (Nat.zero_add _)) (fun _ _ _ _ _ _ h => nomatch h.1) ?_
  rintro v n1 kd1 I1 J1 P1 ⟨h0, rfl, rfl, hfr, hP, i0, i1, i41⟩
  cases h0
  simp only [Option.toList, List.cons_append, List.nil_append]
  have P1o : P1 o = P o := hP o (by omega)
  have g56' : kG kd1 P1 (o + 56) := by unfold kG at g56 ⊢; rw [hP (o + 56) (by omega)]; exact g56
  refine r_if_eq (tgt := 17) dX9_doors_4 (by decide) (fun hz => absurd hz (show ¬ _ from (by decide))) (fun _ => ?_)
  refine r_aload_n dX9_doors_7 rfl ?_
  refine r_getR dX9_doors_8 fl_X9_71 rfl c0 (by rw [P1o]; exact e13) ?_
  refine r_virtE (c_dao0 (o + 56) g56' i0 i1) lk_X9_229 mc_X3_doorsAtOnce dX9_doors_11 g56.1 (by decide) rfl rfl (Nat.le_of_ble_eq_true rfl) ?_
  refine r_goto (tgt := 19) dX9_doors_14 (by decide) ?_
  refine r_iret rfl dX9_doors_19 ?_
  exact ⟨rfl, ⟨by omega, by omega⟩, fun a a1 _ => ⟨rfl, (hfr a a1).1, (hfr a a1).2.1, (hfr a a1).2.2⟩⟩

theorem dX9_hints_0 : decode cX9_hints 0 = .ok (.aload_n 0, 1) := by decide +kernel
theorem dX9_hints_1 : decode cX9_hints 1 = .ok (.invokevirtual 218, 3) := by decide +kernel
theorem dX9_hints_4 : decode cX9_hints 4 = .ok (.ifCond .ne 6, 3) := by decide +kernel
theorem dX9_hints_7 : decode cX9_hints 7 = .ok (.bipush (-2), 2) := by decide +kernel
theorem dX9_hints_9 : decode cX9_hints 9 = .ok (.ireturn, 1) := by decide +kernel
theorem dX9_hints_10 : decode cX9_hints 10 = .ok (.iload_n 1, 1) := by decide +kernel
theorem dX9_hints_11 : decode cX9_hints 11 = .ok (.ifCond .lt 14, 3) := by decide +kernel
theorem dX9_hints_14 : decode cX9_hints 14 = .ok (.iload_n 1, 1) := by decide +kernel
theorem dX9_hints_15 : decode cX9_hints 15 = .ok (.aload_n 0, 1) := by decide +kernel
theorem dX9_hints_16 : decode cX9_hints 16 = .ok (.getfield 54, 3) := by decide +kernel
theorem dX9_hints_19 : decode cX9_hints 19 = .ok (.getfield 186, 3) := by decide +kernel
theorem dX9_hints_22 : decode cX9_hints 22 = .ok (.if_icmp .lt 11, 3) := by decide +kernel
theorem dX9_hints_25 : decode cX9_hints 25 = .ok (.new 139, 3) := by decide +kernel
theorem dX9_hints_28 : decode cX9_hints 28 = .ok (.dup, 1) := by decide +kernel
theorem dX9_hints_29 : decode cX9_hints 29 = .ok (.invokespecial 141, 3) := by decide +kernel
theorem dX9_hints_32 : decode cX9_hints 32 = .ok (.athrow, 1) := by decide +kernel
theorem dX9_hints_33 : decode cX9_hints 33 = .ok (.aload_n 0, 1) := by decide +kernel
theorem dX9_hints_34 : decode cX9_hints 34 = .ok (.getfield 71, 3) := by decide +kernel
theorem dX9_hints_37 : decode cX9_hints 37 = .ok (.iload_n 1, 1) := by decide +kernel
theorem dX9_hints_38 : decode cX9_hints 38 = .ok (.invokevirtual 232, 3) := by decide +kernel
theorem dX9_hints_41 : decode cX9_hints 41 = .ok (.ireturn, 1) := by decide +kernel
set_option maxHeartbeats 4000000 in
set_option maxRecDepth 100000 in
theorem p_hints_0 (o : Nat) {n : Nat} {kd : mK} {I : mI} {J : mJ} {P : mP} (hF : fsC o n kd I J P) : Ct yX9_hints cX9_hints 2 (some .int) 10 1 6 [.ref o, .int (nI 0)] n kd I J P (pC o n kd I J P (.inl (some (.int (nI 0))))) := by
  have hF0 := hF
  obtain ⟨hX, hO, h12, hz, hn, f3, f13, f23, f29, f35, f41, f47, f56, f58, f61, f66, f67, f48⟩ := hF
  have hX0 := hX
  obtain ⟨⟨c0, c1, c2⟩, ⟨s3, s13⟩, ⟨l23, l29, l35⟩, ⟨q41, a47, g56, w58, r61, d66, p67⟩, ⟨e0, e3, e8, e10, e12, e13, e14, e15, e16, e17⟩, ⟨e4, e5, e6, e7⟩, hbs, hfl, ho⟩ := hX
  refine ct_of 0 (by decide +kernel) (Nat.le_of_ble_eq_true rfl) rfl ?_
  refine r_aload_n dX9_hints_0 rfl ?_
  refine r_virt (kc2 := 1) (ks2 := 6) (c_ready0 o hF0) lk_X9_218 mc_X9_readyToLook dX9_hints_1 c0 (by decide) rfl rfl (Nat.le_of_ble_eq_true rfl) (by decide) (by decide) (fun _ _ _ _ _ _ h => nomatch h.1) ?_
  rintro v n1 kd1 I1 J1 P1 ⟨h0, rfl, rfl, hfr, hP, i0, i1, i41⟩
  cases h0
  simp only [Option.toList, List.cons_append, List.nil_append]
  have P1o : P1 o = P o := hP o (by omega)
  have g56' : kG kd1 P1 (o + 56) := by unfold kG at g56 ⊢; rw [hP (o + 56) (by omega)]; exact g56
  refine r_if_ne (tgt := 10) dX9_hints_4 (by decide) (fun _ => ?_) (fun hz => absurd hz (show ¬ _ from (by decide)))
  refine r_iload_n dX9_hints_10 rfl ?_
  refine r_if_lt (tgt := 25) dX9_hints_11 (by decide) (fun hz => absurd hz (show ¬ _ from (by decide))) (fun _ => ?_)
  refine r_iload_n dX9_hints_14 rfl ?_
  refine r_aload_n dX9_hints_15 rfl ?_
  refine r_getR dX9_hints_16 fl_X9_54 rfl c0 (by rw [P1o]; exact e10) ?_
  refine r_getI dX9_hints_19 fl_X9_186 rfl q41.1 ?_
  rw [i41]
  refine r_icmp_lt (tgt := 33) dX9_hints_22 (by decide) (fun _ => ?_) (fun hz => absurd (show _ from (by decide)) hz)
  refine r_aload_n dX9_hints_33 rfl ?_
  refine r_getR dX9_hints_34 fl_X9_71 rfl c0 (by rw [P1o]; exact e13) ?_
  refine r_iload_n dX9_hints_37 rfl ?_
  refine r_virtE (c_hf0 (o + 56) g56' i0 i1) lk_X9_232 mc_X3_hintsFor dX9_hints_38 g56.1 (by decide) rfl rfl (Nat.le_of_ble_eq_true rfl) ?_
  refine r_iret rfl dX9_hints_41 ?_
  exact ⟨rfl, ⟨by omega, by omega⟩, fun a a1 _ => ⟨rfl, (hfr a a1).1, (hfr a a1).2.1, (hfr a a1).2.2⟩⟩

set_option maxHeartbeats 4000000 in
set_option maxRecDepth 100000 in
theorem p_hints_no (o : Nat) (x : Int32) {n : Nat} {kd : mK} {I : mI} {J : mJ} {P : mP} (hF : fsC o n kd I J P) (hx : ¬ x = 0) : Ct yX9_hints cX9_hints 2 (some .int) 10 1 6 [.ref o, .int x] n kd I J P (pC o n kd I J P (.inr "java/util/NoSuchElementException")) := by
  have hF0 := hF
  obtain ⟨hX, hO, h12, hz, hn, f3, f13, f23, f29, f35, f41, f47, f56, f58, f61, f66, f67, f48⟩ := hF
  have hX0 := hX
  obtain ⟨⟨c0, c1, c2⟩, ⟨s3, s13⟩, ⟨l23, l29, l35⟩, ⟨q41, a47, g56, w58, r61, d66, p67⟩, ⟨e0, e3, e8, e10, e12, e13, e14, e15, e16, e17⟩, ⟨e4, e5, e6, e7⟩, hbs, hfl, ho⟩ := hX
  have hx2 : ¬ x < 0 → ¬ x < nI 1 := fun h1 h2 => by
    rw [Int32.lt_iff_toInt_lt, show (0 : Int32).toInt = 0 from by decide] at h1
    rw [Int32.lt_iff_toInt_lt, show (nI 1).toInt = 1 from by decide] at h2
    exact hx (Int32.toInt_inj.mp (by rw [show (0 : Int32).toInt = 0 from by decide]; omega))
  refine ct_of 0 (by decide +kernel) (Nat.le_of_ble_eq_true rfl) rfl ?_
  refine r_aload_n dX9_hints_0 rfl ?_
  refine r_virt (kc2 := 1) (ks2 := 6) (c_ready0 o hF0) lk_X9_218 mc_X9_readyToLook dX9_hints_1 c0 (by decide) rfl rfl (Nat.le_of_ble_eq_true rfl) (by decide) (by decide) (fun _ _ _ _ _ _ h => nomatch h.1) ?_
  rintro v n1 kd1 I1 J1 P1 ⟨h0, rfl, rfl, hfr, hP, i0, i1, i41⟩
  cases h0
  simp only [Option.toList, List.cons_append, List.nil_append]
  have P1o : P1 o = P o := hP o (by omega)
  have g56' : kG kd1 P1 (o + 56) := by unfold kG at g56 ⊢; rw [hP (o + 56) (by omega)]; exact g56
  refine r_if_ne (tgt := 10) dX9_hints_4 (by decide) (fun _ => ?_) (fun hz => absurd hz (show ¬ _ from (by decide)))
  refine r_iload_n dX9_hints_10 rfl ?_
  refine r_if_lt (tgt := 25) dX9_hints_11 (by decide) (fun h11 => ?_) (fun h11 => ?_)
  · skip
    refine r_throw (cls := "java/util/NoSuchElementException") (names := ["java/lang/RuntimeException", "java/lang/Exception"]) dX9_hints_25 dX9_hints_28 dX9_hints_29 dX9_hints_32 (by decide +kernel) (by decide +kernel) cl_X9_139 xi_NoSuchElementException xa_nse xb_nse (by decide) (Nat.le_of_ble_eq_true rfl) (by omega) (by omega) ?_
    exact ⟨rfl, ⟨by omega, by omega⟩, fun a a1 _ => ⟨rfl, (hfr a a1).1, (hfr a a1).2.1, (hfr a a1).2.2⟩⟩
  · skip
    refine r_iload_n dX9_hints_14 rfl ?_
    refine r_aload_n dX9_hints_15 rfl ?_
    refine r_getR dX9_hints_16 fl_X9_54 rfl c0 (by rw [P1o]; exact e10) ?_
    refine r_getI dX9_hints_19 fl_X9_186 rfl q41.1 ?_
    rw [i41]
    refine r_icmp_lt (tgt := 33) dX9_hints_22 (by decide) (fun hz => absurd hz (show ¬ _ from (hx2 h11))) (fun _ => ?_)
    refine r_throw (cls := "java/util/NoSuchElementException") (names := ["java/lang/RuntimeException", "java/lang/Exception"]) dX9_hints_25 dX9_hints_28 dX9_hints_29 dX9_hints_32 (by decide +kernel) (by decide +kernel) cl_X9_139 xi_NoSuchElementException xa_nse xb_nse (by decide) (Nat.le_of_ble_eq_true rfl) (by omega) (by omega) ?_
    exact ⟨rfl, ⟨by omega, by omega⟩, fun a a1 _ => ⟨rfl, (hfr a a1).1, (hfr a a1).2.1, (hfr a a1).2.2⟩⟩

theorem fwB_0 : fwB res0 = true := by decide
theorem lookV_0 : lookV 0 res0.2.1 = 0 := gV_few _ (by decide)
theorem fsM.th {m : Nat} {kd : mK} {I : mI} {J : mJ} {P : mP} (h : fsM m kd I J P) : va_up I m (va_up (I m) 0 (nI 0)) = I := by
  have e : va_up (I m) 0 (nI 0) = I m := by
    funext j
    by_cases q : j = 0
    · rw [q, am_up_s, h.2.1]; rfl
    · rw [am_up_n _ _ q]
  rw [e, am_up_id]
theorem dX10_smallest_0 : decode cX10_smallest 0 = .ok (.iconst (-1), 1) := by decide +kernel
theorem dX10_smallest_1 : decode cX10_smallest 1 = .ok (.istore_n 2, 1) := by decide +kernel
theorem dX10_smallest_2 : decode cX10_smallest 2 = .ok (.iconst 0, 1) := by decide +kernel
theorem dX10_smallest_3 : decode cX10_smallest 3 = .ok (.istore_n 3, 1) := by decide +kernel
theorem dX10_smallest_4 : decode cX10_smallest 4 = .ok (.iload_n 3, 1) := by decide +kernel
theorem dX10_smallest_5 : decode cX10_smallest 5 = .ok (.iconst 1, 1) := by decide +kernel
theorem dX10_smallest_6 : decode cX10_smallest 6 = .ok (.aload_n 0, 1) := by decide +kernel
theorem dX10_smallest_7 : decode cX10_smallest 7 = .ok (.getfield 350, 3) := by decide +kernel
theorem dX10_smallest_10 : decode cX10_smallest 10 = .ok (.ishl, 1) := by decide +kernel
theorem dX10_smallest_11 : decode cX10_smallest 11 = .ok (.if_icmp .ge 121, 3) := by decide +kernel
theorem dX10_smallest_14 : decode cX10_smallest 14 = .ok (.iload_n 2, 1) := by decide +kernel
theorem dX10_smallest_15 : decode cX10_smallest 15 = .ok (.iconst (-1), 1) := by decide +kernel
theorem dX10_smallest_16 : decode cX10_smallest 16 = .ok (.if_icmp .eq 17, 3) := by decide +kernel
theorem dX10_smallest_19 : decode cX10_smallest 19 = .ok (.iload_n 3, 1) := by decide +kernel
theorem dX10_smallest_20 : decode cX10_smallest 20 = .ok (.invokestatic 448, 3) := by decide +kernel
theorem dX10_smallest_23 : decode cX10_smallest 23 = .ok (.iload_n 2, 1) := by decide +kernel
theorem dX10_smallest_24 : decode cX10_smallest 24 = .ok (.invokestatic 448, 3) := by decide +kernel
theorem dX10_smallest_27 : decode cX10_smallest 27 = .ok (.if_icmp .lt 6, 3) := by decide +kernel
theorem dX10_smallest_30 : decode cX10_smallest 30 = .ok (.goto 96, 3) := by decide +kernel
theorem dX10_smallest_33 : decode cX10_smallest 33 = .ok (.iconst 1, 1) := by decide +kernel
theorem dX10_smallest_34 : decode cX10_smallest 34 = .ok (.istore 4, 2) := by decide +kernel
theorem dX10_smallest_36 : decode cX10_smallest 36 = .ok (.iconst 0, 1) := by decide +kernel
theorem dX10_smallest_37 : decode cX10_smallest 37 = .ok (.istore 5, 2) := by decide +kernel
theorem dX10_smallest_39 : decode cX10_smallest 39 = .ok (.iload 5, 2) := by decide +kernel
theorem dX10_smallest_41 : decode cX10_smallest 41 = .ok (.aload_n 0, 1) := by decide +kernel
theorem dX10_smallest_42 : decode cX10_smallest 42 = .ok (.getfield 413, 3) := by decide +kernel
theorem dX10_smallest_45 : decode cX10_smallest 45 = .ok (.if_icmp .ge 74, 3) := by decide +kernel
theorem dX10_smallest_48 : decode cX10_smallest 48 = .ok (.iload 4, 2) := by decide +kernel
theorem dX10_smallest_50 : decode cX10_smallest 50 = .ok (.ifCond .eq 69, 3) := by decide +kernel
theorem dX10_smallest_53 : decode cX10_smallest 53 = .ok (.iconst 0, 1) := by decide +kernel
theorem dX10_smallest_54 : decode cX10_smallest 54 = .ok (.istore 6, 2) := by decide +kernel
theorem dX10_smallest_56 : decode cX10_smallest 56 = .ok (.iload 6, 2) := by decide +kernel
theorem dX10_smallest_58 : decode cX10_smallest 58 = .ok (.aload_n 0, 1) := by decide +kernel
theorem dX10_smallest_59 : decode cX10_smallest 59 = .ok (.getfield 413, 3) := by decide +kernel
theorem dX10_smallest_62 : decode cX10_smallest 62 = .ok (.if_icmp .ge 51, 3) := by decide +kernel
theorem dX10_smallest_65 : decode cX10_smallest 65 = .ok (.iload 4, 2) := by decide +kernel
theorem dX10_smallest_67 : decode cX10_smallest 67 = .ok (.ifCond .eq 46, 3) := by decide +kernel
theorem dX10_smallest_70 : decode cX10_smallest 70 = .ok (.iload_n 1, 1) := by decide +kernel
theorem dX10_smallest_71 : decode cX10_smallest 71 = .ok (.iconst (-1), 1) := by decide +kernel
theorem dX10_smallest_72 : decode cX10_smallest 72 = .ok (.if_icmp .eq 9, 3) := by decide +kernel
theorem dX10_smallest_75 : decode cX10_smallest 75 = .ok (.iload 5, 2) := by decide +kernel
theorem dX10_smallest_77 : decode cX10_smallest 77 = .ok (.iload_n 1, 1) := by decide +kernel
theorem dX10_smallest_78 : decode cX10_smallest 78 = .ok (.if_icmp .ne 35, 3) := by decide +kernel
theorem dX10_smallest_81 : decode cX10_smallest 81 = .ok (.iload 5, 2) := by decide +kernel
theorem dX10_smallest_83 : decode cX10_smallest 83 = .ok (.iload 6, 2) := by decide +kernel
theorem dX10_smallest_85 : decode cX10_smallest 85 = .ok (.if_icmp .eq 15, 3) := by decide +kernel
theorem dX10_smallest_88 : decode cX10_smallest 88 = .ok (.aload_n 0, 1) := by decide +kernel
theorem dX10_smallest_89 : decode cX10_smallest 89 = .ok (.iload 5, 2) := by decide +kernel
theorem dX10_smallest_91 : decode cX10_smallest 91 = .ok (.iload 6, 2) := by decide +kernel
theorem dX10_smallest_93 : decode cX10_smallest 93 = .ok (.iload_n 3, 1) := by decide +kernel
theorem dX10_smallest_94 : decode cX10_smallest 94 = .ok (.invokevirtual 465, 3) := by decide +kernel
theorem dX10_smallest_97 : decode cX10_smallest 97 = .ok (.ifCond .ne 7, 3) := by decide +kernel
theorem dX10_smallest_100 : decode cX10_smallest 100 = .ok (.iconst 1, 1) := by decide +kernel
theorem dX10_smallest_101 : decode cX10_smallest 101 = .ok (.goto 4, 3) := by decide +kernel
theorem dX10_smallest_104 : decode cX10_smallest 104 = .ok (.iconst 0, 1) := by decide +kernel
theorem dX10_smallest_105 : decode cX10_smallest 105 = .ok (.istore 4, 2) := by decide +kernel
theorem dX10_smallest_107 : decode cX10_smallest 107 = .ok (.iinc 6 1, 3) := by decide +kernel
theorem dX10_smallest_110 : decode cX10_smallest 110 = .ok (.goto (-54), 3) := by decide +kernel
theorem dX10_smallest_113 : decode cX10_smallest 113 = .ok (.iinc 5 1, 3) := by decide +kernel
theorem dX10_smallest_116 : decode cX10_smallest 116 = .ok (.goto (-77), 3) := by decide +kernel
theorem dX10_smallest_119 : decode cX10_smallest 119 = .ok (.iload 4, 2) := by decide +kernel
theorem dX10_smallest_121 : decode cX10_smallest 121 = .ok (.ifCond .eq 5, 3) := by decide +kernel
theorem dX10_smallest_124 : decode cX10_smallest 124 = .ok (.iload_n 3, 1) := by decide +kernel
theorem dX10_smallest_125 : decode cX10_smallest 125 = .ok (.istore_n 2, 1) := by decide +kernel
theorem dX10_smallest_126 : decode cX10_smallest 126 = .ok (.iinc 3 1, 3) := by decide +kernel
theorem dX10_smallest_129 : decode cX10_smallest 129 = .ok (.goto (-125), 3) := by decide +kernel
theorem dX10_smallest_132 : decode cX10_smallest 132 = .ok (.iload_n 2, 1) := by decide +kernel
theorem dX10_smallest_133 : decode cX10_smallest 133 = .ok (.ireturn, 1) := by decide +kernel

set_option maxHeartbeats 4000000 in
set_option maxRecDepth 100000 in
theorem c_sm_a (m : Nat) {n : Nat} {kd : mK} {I : mI} {J : mJ} {P : mP} (hM : kM kd P m) (h1 : I m 1 = nI 0) (h52 : I m 52 = nI 1) : Ct yX10_smallest cX10_smallest 7 (some .int) 2 0 0 [.ref m, .int (-1)] n kd I J P (am_is (some (.int (nI 0))) n kd I J P) := by
  refine ct_of 5 (by decide +kernel) (Nat.le_of_ble_eq_true rfl) rfl ?_
  refine r_iconst (v := (-1)) dX10_smallest_0 (by decide) ?_
  refine r_istore_n dX10_smallest_1 (by decide) ?_
  refine r_iconst (v := nI 0) dX10_smallest_2 (by decide) ?_
  refine r_istore_n dX10_smallest_3 (by decide) ?_
  refine r_iload_n dX10_smallest_4 rfl ?_
  refine r_iconst (v := nI 1) dX10_smallest_5 (by decide) ?_
  refine r_aload_n dX10_smallest_6 rfl ?_
  refine r_getI dX10_smallest_7 fl_X10_350 rfl (kM_0 hM) ?_
  rw [h1]
  refine r_ishl dX10_smallest_10 ?_
  refine r_icmp_ge (tgt := 132) dX10_smallest_11 (by decide) (fun hz => absurd hz (show ¬ _ from (by decide))) (fun _ => ?_)
  refine r_iload_n dX10_smallest_14 rfl ?_
  refine r_iconst (v := (-1)) dX10_smallest_15 (by decide) ?_
  refine r_icmp_eq (tgt := 33) dX10_smallest_16 (by decide) (fun _ => ?_) (fun hz => absurd (show _ from (by decide)) hz)
  refine r_iconst (v := nI 1) dX10_smallest_33 (by decide) ?_
  refine r_istore dX10_smallest_34 (by decide) ?_
  refine r_iconst (v := nI 0) dX10_smallest_36 (by decide) ?_
  refine r_istore dX10_smallest_37 (by decide) ?_
  refine r_iload dX10_smallest_39 rfl ?_
  refine r_aload_n dX10_smallest_41 rfl ?_
  refine r_getI dX10_smallest_42 fl_X10_413 rfl (kM_0 hM) ?_
  rw [h52]
  refine r_icmp_ge (tgt := 119) dX10_smallest_45 (by decide) (fun hz => absurd hz (show ¬ _ from (by decide))) (fun _ => ?_)
  refine r_iload dX10_smallest_48 rfl ?_
  refine r_if_eq (tgt := 119) dX10_smallest_50 (by decide) (fun hz => absurd hz (show ¬ _ from (by decide))) (fun _ => ?_)
  refine r_iconst (v := nI 0) dX10_smallest_53 (by decide) ?_
  refine r_istore dX10_smallest_54 (by decide) ?_
  refine r_iload dX10_smallest_56 rfl ?_
  refine r_aload_n dX10_smallest_58 rfl ?_
  refine r_getI dX10_smallest_59 fl_X10_413 rfl (kM_0 hM) ?_
  rw [h52]
  refine r_icmp_ge (tgt := 113) dX10_smallest_62 (by decide) (fun hz => absurd hz (show ¬ _ from (by decide))) (fun _ => ?_)
  refine r_iload dX10_smallest_65 rfl ?_
  refine r_if_eq (tgt := 113) dX10_smallest_67 (by decide) (fun hz => absurd hz (show ¬ _ from (by decide))) (fun _ => ?_)
  refine r_iload_n dX10_smallest_70 rfl ?_
  refine r_iconst (v := (-1)) dX10_smallest_71 (by decide) ?_
  refine r_icmp_eq (tgt := 81) dX10_smallest_72 (by decide) (fun _ => ?_) (fun hz => absurd (show _ from (by decide)) hz)
  refine r_iload dX10_smallest_81 rfl ?_
  refine r_iload dX10_smallest_83 rfl ?_
  refine r_icmp_eq (tgt := 100) dX10_smallest_85 (by decide) (fun _ => ?_) (fun hz => absurd (show _ from (by decide)) hz)
  refine r_iconst (v := nI 1) dX10_smallest_100 (by decide) ?_
  refine r_goto (tgt := 105) dX10_smallest_101 (by decide) ?_
  refine r_istore dX10_smallest_105 (by decide) ?_
  refine r_iinc (v := nI 1) dX10_smallest_107 rfl (by decide) ?_
  refine r_goto (tgt := 56) dX10_smallest_110 (by decide) ?_
  refine r_iload dX10_smallest_56 rfl ?_
  refine r_aload_n dX10_smallest_58 rfl ?_
  refine r_getI dX10_smallest_59 fl_X10_413 rfl (kM_0 hM) ?_
  rw [h52]
  refine r_icmp_ge (tgt := 113) dX10_smallest_62 (by decide) (fun _ => ?_) (fun hz => absurd (show _ from (by decide)) hz)
  refine r_iinc (v := nI 1) dX10_smallest_113 rfl (by decide) ?_
  refine r_goto (tgt := 39) dX10_smallest_116 (by decide) ?_
  refine r_iload dX10_smallest_39 rfl ?_
  refine r_aload_n dX10_smallest_41 rfl ?_
  refine r_getI dX10_smallest_42 fl_X10_413 rfl (kM_0 hM) ?_
  rw [h52]
  refine r_icmp_ge (tgt := 119) dX10_smallest_45 (by decide) (fun _ => ?_) (fun hz => absurd (show _ from (by decide)) hz)
  refine r_iload dX10_smallest_119 rfl ?_
  refine r_if_eq (tgt := 126) dX10_smallest_121 (by decide) (fun hz => absurd hz (show ¬ _ from (by decide))) (fun _ => ?_)
  refine r_iload_n dX10_smallest_124 rfl ?_
  refine r_istore_n dX10_smallest_125 (by decide) ?_
  refine r_iinc (v := nI 1) dX10_smallest_126 rfl (by decide) ?_
  refine r_goto (tgt := 4) dX10_smallest_129 (by decide) ?_
  refine r_iload_n dX10_smallest_4 rfl ?_
  refine r_iconst (v := nI 1) dX10_smallest_5 (by decide) ?_
  refine r_aload_n dX10_smallest_6 rfl ?_
  refine r_getI dX10_smallest_7 fl_X10_350 rfl (kM_0 hM) ?_
  rw [h1]
  refine r_ishl dX10_smallest_10 ?_
  refine r_icmp_ge (tgt := 132) dX10_smallest_11 (by decide) (fun _ => ?_) (fun hz => absurd (show _ from (by decide)) hz)
  refine r_iload_n dX10_smallest_132 rfl ?_
  refine r_iret rfl dX10_smallest_133 ?_
  exact am_is.mk

set_option maxHeartbeats 4000000 in
set_option maxRecDepth 100000 in
theorem c_sm_b (m : Nat) {n : Nat} {kd : mK} {I : mI} {J : mJ} {P : mP} (hM : kM kd P m) (h1 : I m 1 = nI 0) (h52 : I m 52 = nI 1) : Ct yX10_smallest cX10_smallest 7 (some .int) 2 0 0 [.ref m, .int (nI 0)] n kd I J P (am_is (some (.int (nI 0))) n kd I J P) := by
  refine ct_of 5 (by decide +kernel) (Nat.le_of_ble_eq_true rfl) rfl ?_
  refine r_iconst (v := (-1)) dX10_smallest_0 (by decide) ?_
  refine r_istore_n dX10_smallest_1 (by decide) ?_
  refine r_iconst (v := nI 0) dX10_smallest_2 (by decide) ?_
  refine r_istore_n dX10_smallest_3 (by decide) ?_
  refine r_iload_n dX10_smallest_4 rfl ?_
  refine r_iconst (v := nI 1) dX10_smallest_5 (by decide) ?_
  refine r_aload_n dX10_smallest_6 rfl ?_
  refine r_getI dX10_smallest_7 fl_X10_350 rfl (kM_0 hM) ?_
  rw [h1]
  refine r_ishl dX10_smallest_10 ?_
  refine r_icmp_ge (tgt := 132) dX10_smallest_11 (by decide) (fun hz => absurd hz (show ¬ _ from (by decide))) (fun _ => ?_)
  refine r_iload_n dX10_smallest_14 rfl ?_
  refine r_iconst (v := (-1)) dX10_smallest_15 (by decide) ?_
  refine r_icmp_eq (tgt := 33) dX10_smallest_16 (by decide) (fun _ => ?_) (fun hz => absurd (show _ from (by decide)) hz)
  refine r_iconst (v := nI 1) dX10_smallest_33 (by decide) ?_
  refine r_istore dX10_smallest_34 (by decide) ?_
  refine r_iconst (v := nI 0) dX10_smallest_36 (by decide) ?_
  refine r_istore dX10_smallest_37 (by decide) ?_
  refine r_iload dX10_smallest_39 rfl ?_
  refine r_aload_n dX10_smallest_41 rfl ?_
  refine r_getI dX10_smallest_42 fl_X10_413 rfl (kM_0 hM) ?_
  rw [h52]
  refine r_icmp_ge (tgt := 119) dX10_smallest_45 (by decide) (fun hz => absurd hz (show ¬ _ from (by decide))) (fun _ => ?_)
  refine r_iload dX10_smallest_48 rfl ?_
  refine r_if_eq (tgt := 119) dX10_smallest_50 (by decide) (fun hz => absurd hz (show ¬ _ from (by decide))) (fun _ => ?_)
  refine r_iconst (v := nI 0) dX10_smallest_53 (by decide) ?_
  refine r_istore dX10_smallest_54 (by decide) ?_
  refine r_iload dX10_smallest_56 rfl ?_
  refine r_aload_n dX10_smallest_58 rfl ?_
  refine r_getI dX10_smallest_59 fl_X10_413 rfl (kM_0 hM) ?_
  rw [h52]
  refine r_icmp_ge (tgt := 113) dX10_smallest_62 (by decide) (fun hz => absurd hz (show ¬ _ from (by decide))) (fun _ => ?_)
  refine r_iload dX10_smallest_65 rfl ?_
  refine r_if_eq (tgt := 113) dX10_smallest_67 (by decide) (fun hz => absurd hz (show ¬ _ from (by decide))) (fun _ => ?_)
  refine r_iload_n dX10_smallest_70 rfl ?_
  refine r_iconst (v := (-1)) dX10_smallest_71 (by decide) ?_
  refine r_icmp_eq (tgt := 81) dX10_smallest_72 (by decide) (fun hz => absurd hz (show ¬ _ from (by decide))) (fun _ => ?_)
  refine r_iload dX10_smallest_75 rfl ?_
  refine r_iload_n dX10_smallest_77 rfl ?_
  refine r_icmp_ne (tgt := 113) dX10_smallest_78 (by decide) (fun hz => absurd (show _ from (by decide)) hz) (fun _ => ?_)
  refine r_iload dX10_smallest_81 rfl ?_
  refine r_iload dX10_smallest_83 rfl ?_
  refine r_icmp_eq (tgt := 100) dX10_smallest_85 (by decide) (fun _ => ?_) (fun hz => absurd (show _ from (by decide)) hz)
  refine r_iconst (v := nI 1) dX10_smallest_100 (by decide) ?_
  refine r_goto (tgt := 105) dX10_smallest_101 (by decide) ?_
  refine r_istore dX10_smallest_105 (by decide) ?_
  refine r_iinc (v := nI 1) dX10_smallest_107 rfl (by decide) ?_
  refine r_goto (tgt := 56) dX10_smallest_110 (by decide) ?_
  refine r_iload dX10_smallest_56 rfl ?_
  refine r_aload_n dX10_smallest_58 rfl ?_
  refine r_getI dX10_smallest_59 fl_X10_413 rfl (kM_0 hM) ?_
  rw [h52]
  refine r_icmp_ge (tgt := 113) dX10_smallest_62 (by decide) (fun _ => ?_) (fun hz => absurd (show _ from (by decide)) hz)
  refine r_iinc (v := nI 1) dX10_smallest_113 rfl (by decide) ?_
  refine r_goto (tgt := 39) dX10_smallest_116 (by decide) ?_
  refine r_iload dX10_smallest_39 rfl ?_
  refine r_aload_n dX10_smallest_41 rfl ?_
  refine r_getI dX10_smallest_42 fl_X10_413 rfl (kM_0 hM) ?_
  rw [h52]
  refine r_icmp_ge (tgt := 119) dX10_smallest_45 (by decide) (fun _ => ?_) (fun hz => absurd (show _ from (by decide)) hz)
  refine r_iload dX10_smallest_119 rfl ?_
  refine r_if_eq (tgt := 126) dX10_smallest_121 (by decide) (fun hz => absurd hz (show ¬ _ from (by decide))) (fun _ => ?_)
  refine r_iload_n dX10_smallest_124 rfl ?_
  refine r_istore_n dX10_smallest_125 (by decide) ?_
  refine r_iinc (v := nI 1) dX10_smallest_126 rfl (by decide) ?_
  refine r_goto (tgt := 4) dX10_smallest_129 (by decide) ?_
  refine r_iload_n dX10_smallest_4 rfl ?_
  refine r_iconst (v := nI 1) dX10_smallest_5 (by decide) ?_
  refine r_aload_n dX10_smallest_6 rfl ?_
  refine r_getI dX10_smallest_7 fl_X10_350 rfl (kM_0 hM) ?_
  rw [h1]
  refine r_ishl dX10_smallest_10 ?_
  refine r_icmp_ge (tgt := 132) dX10_smallest_11 (by decide) (fun _ => ?_) (fun hz => absurd (show _ from (by decide)) hz)
  refine r_iload_n dX10_smallest_132 rfl ?_
  refine r_iret rfl dX10_smallest_133 ?_
  exact am_is.mk

theorem dX10_doors_0 : decode cX10_doors 0 = .ok (.aload_n 0, 1) := by decide +kernel
theorem dX10_doors_1 : decode cX10_doors 1 = .ok (.iconst 0, 1) := by decide +kernel
theorem dX10_doors_2 : decode cX10_doors 2 = .ok (.putfield 193, 3) := by decide +kernel
theorem dX10_doors_5 : decode cX10_doors 5 = .ok (.aload_n 0, 1) := by decide +kernel
theorem dX10_doors_6 : decode cX10_doors 6 = .ok (.invokevirtual 462, 3) := by decide +kernel
theorem dX10_doors_9 : decode cX10_doors 9 = .ok (.ifCond .eq 11, 3) := by decide +kernel
theorem dX10_doors_12 : decode cX10_doors 12 = .ok (.aload_n 0, 1) := by decide +kernel
theorem dX10_doors_13 : decode cX10_doors 13 = .ok (.iconst (-1), 1) := by decide +kernel
theorem dX10_doors_14 : decode cX10_doors 14 = .ok (.invokevirtual 468, 3) := by decide +kernel
theorem dX10_doors_17 : decode cX10_doors 17 = .ok (.goto 5, 3) := by decide +kernel
theorem dX10_doors_20 : decode cX10_doors 20 = .ok (.bipush (-2), 2) := by decide +kernel
theorem dX10_doors_22 : decode cX10_doors 22 = .ok (.ireturn, 1) := by decide +kernel
set_option maxHeartbeats 4000000 in
set_option maxRecDepth 100000 in
theorem q_doors (m : Nat) {n : Nat} {kd : mK} {I : mI} {J : mJ} {P : mP} (hF : fsM m kd I J P) : Ct yX10_doors cX10_doors 1 (some .int) 9 0 0 [.ref m] n kd I J P (pR m n kd I J P (some (.int (nI 0))) 0) := by
  have hM := hF.1
  have hm := hF.2.1
  refine ct_of 0 (by decide +kernel) (Nat.le_of_ble_eq_true rfl) rfl ?_
  refine r_aload_n dX10_doors_0 rfl ?_
  refine r_iconst (v := nI 0) dX10_doors_1 (by decide) ?_
  refine r_putI dX10_doors_2 fl_X10_193 rfl rfl (kM_0 hM) ?_
  rw [hF.th]
  refine r_aload_n dX10_doors_5 rfl ?_
  refine r_virt (c_X10_isFew m 0 9 0 (fun h => lkm 0 (cs0 h)) cs0 false (I (m + 24)) (I (m + 1)) (I (m + 2)) (fun k => !(cs0 k).isEmpty) res0 (fs_rf hF) (by decide) (by decide) (fun k hk => absurd hk (by omega)) (sk_0 _ _ _)) lk_X10_462 mc_X10_isFew dX10_doors_6 hM.1 (by decide) rfl rfl (Nat.le_of_ble_eq_true rfl) (Nat.le_of_eq (Nat.zero_add _)) (Nat.le_of_eq (Nat.zero_add _)) (fun _ _ _ _ _ _ h => nomatch h.1) ?_
  rintro v n1 kd1 I1 J1 P1 ⟨h0, rfl, rfl, rfl, hf, h52, hj, -⟩
  cases h0
  simp only [Option.toList, List.cons_append, List.nil_append]
  rw [fwB_0]
  have g52 : I1 m 52 = nI 1 := h52 fwB_0
  have g1 : I1 m 1 = nI 0 := by rw [hf.2 1 (by decide) (by decide), hm]; rfl
  have g0 : I1 m 0 = nI 0 := by rw [hf.2 0 (by decide) (by decide), hm]; rfl
  have gJ : J1 (m + 56) = J (m + 56) := hj (m + 56) (by omega)
  refine r_if_eq (tgt := 20) dX10_doors_9 (by decide) (fun hz => absurd hz (show ¬ _ from (by decide))) (fun _ => ?_)
  refine r_aload_n dX10_doors_12 rfl ?_
  refine r_iconst (v := (-1)) dX10_doors_13 (by decide) ?_
  refine r_virtE (c_sm_a m hM g1 g52) lk_X10_468 mc_X10_smallest dX10_doors_14 hM.1 (by decide) rfl rfl (Nat.le_of_ble_eq_true rfl) ?_
  refine r_goto (tgt := 22) dX10_doors_17 (by decide) ?_
  refine r_iret rfl dX10_doors_22 ?_
  exact ⟨rfl, rfl, rfl, rfl, g0, gJ⟩

theorem dX10_hints_0 : decode cX10_hints 0 = .ok (.aload_n 0, 1) := by decide +kernel
theorem dX10_hints_1 : decode cX10_hints 1 = .ok (.iconst 0, 1) := by decide +kernel
theorem dX10_hints_2 : decode cX10_hints 2 = .ok (.putfield 193, 3) := by decide +kernel
theorem dX10_hints_5 : decode cX10_hints 5 = .ok (.aload_n 0, 1) := by decide +kernel
theorem dX10_hints_6 : decode cX10_hints 6 = .ok (.invokevirtual 462, 3) := by decide +kernel
theorem dX10_hints_9 : decode cX10_hints 9 = .ok (.ifCond .ne 6, 3) := by decide +kernel
theorem dX10_hints_12 : decode cX10_hints 12 = .ok (.bipush (-2), 2) := by decide +kernel
theorem dX10_hints_14 : decode cX10_hints 14 = .ok (.ireturn, 1) := by decide +kernel
theorem dX10_hints_15 : decode cX10_hints 15 = .ok (.aload_n 0, 1) := by decide +kernel
theorem dX10_hints_16 : decode cX10_hints 16 = .ok (.iload_n 1, 1) := by decide +kernel
theorem dX10_hints_17 : decode cX10_hints 17 = .ok (.ifCond .lt 15, 3) := by decide +kernel
theorem dX10_hints_20 : decode cX10_hints 20 = .ok (.iload_n 1, 1) := by decide +kernel
theorem dX10_hints_21 : decode cX10_hints 21 = .ok (.aload_n 0, 1) := by decide +kernel
theorem dX10_hints_22 : decode cX10_hints 22 = .ok (.getfield 413, 3) := by decide +kernel
theorem dX10_hints_25 : decode cX10_hints 25 = .ok (.if_icmp .ge 7, 3) := by decide +kernel
theorem dX10_hints_28 : decode cX10_hints 28 = .ok (.iconst 1, 1) := by decide +kernel
theorem dX10_hints_29 : decode cX10_hints 29 = .ok (.goto 4, 3) := by decide +kernel
theorem dX10_hints_32 : decode cX10_hints 32 = .ok (.iconst 0, 1) := by decide +kernel
theorem dX10_hints_33 : decode cX10_hints 33 = .ok (.iconst 1, 1) := by decide +kernel
theorem dX10_hints_34 : decode cX10_hints 34 = .ok (.invokevirtual 343, 3) := by decide +kernel
theorem dX10_hints_37 : decode cX10_hints 37 = .ok (.ifCond .eq 11, 3) := by decide +kernel
theorem dX10_hints_40 : decode cX10_hints 40 = .ok (.aload_n 0, 1) := by decide +kernel
theorem dX10_hints_41 : decode cX10_hints 41 = .ok (.iload_n 1, 1) := by decide +kernel
theorem dX10_hints_42 : decode cX10_hints 42 = .ok (.invokevirtual 468, 3) := by decide +kernel
theorem dX10_hints_45 : decode cX10_hints 45 = .ok (.goto 4, 3) := by decide +kernel
theorem dX10_hints_48 : decode cX10_hints 48 = .ok (.iconst 0, 1) := by decide +kernel
theorem dX10_hints_49 : decode cX10_hints 49 = .ok (.ireturn, 1) := by decide +kernel
set_option maxHeartbeats 4000000 in
set_option maxRecDepth 100000 in
theorem q_hints_0 (m : Nat) {n : Nat} {kd : mK} {I : mI} {J : mJ} {P : mP} (hF : fsM m kd I J P) : Ct yX10_hints cX10_hints 2 (some .int) 9 0 0 [.ref m, .int (nI 0)] n kd I J P (pR m n kd I J P (some (.int (nI 0))) 0) := by
  have hM := hF.1
  have hm := hF.2.1
  refine ct_of 0 (by decide +kernel) (Nat.le_of_ble_eq_true rfl) rfl ?_
  refine r_aload_n dX10_hints_0 rfl ?_
  refine r_iconst (v := nI 0) dX10_hints_1 (by decide) ?_
  refine r_putI dX10_hints_2 fl_X10_193 rfl rfl (kM_0 hM) ?_
  rw [hF.th]
  refine r_aload_n dX10_hints_5 rfl ?_
  refine r_virt (c_X10_isFew m 0 9 0 (fun h => lkm 0 (cs0 h)) cs0 false (I (m + 24)) (I (m + 1)) (I (m + 2)) (fun k => !(cs0 k).isEmpty) res0 (fs_rf hF) (by decide) (by decide) (fun k hk => absurd hk (by omega)) (sk_0 _ _ _)) lk_X10_462 mc_X10_isFew dX10_hints_6 hM.1 (by decide) rfl rfl (Nat.le_of_ble_eq_true rfl) (Nat.le_of_eq (Nat.zero_add _)) (Nat.le_of_eq (Nat.zero_add _)) (fun _ _ _ _ _ _ h => nomatch h.1) ?_
  rintro v n1 kd1 I1 J1 P1 ⟨h0, rfl, rfl, rfl, hf, h52, hj, -⟩
  cases h0
  simp only [Option.toList, List.cons_append, List.nil_append]
  rw [fwB_0]
  have g52 : I1 m 52 = nI 1 := h52 fwB_0
  have g1 : I1 m 1 = nI 0 := by rw [hf.2 1 (by decide) (by decide), hm]; rfl
  have g0 : I1 m 0 = nI 0 := by rw [hf.2 0 (by decide) (by decide), hm]; rfl
  have gJ : J1 (m + 56) = J (m + 56) := hj (m + 56) (by omega)
  refine r_if_ne (tgt := 15) dX10_hints_9 (by decide) (fun _ => ?_) (fun hz => absurd hz (show ¬ _ from (by decide)))
  refine r_aload_n dX10_hints_15 rfl ?_
  refine r_iload_n dX10_hints_16 rfl ?_
  refine r_if_lt (tgt := 32) dX10_hints_17 (by decide) (fun hz => absurd hz (show ¬ _ from (by decide))) (fun _ => ?_)
  refine r_iload_n dX10_hints_20 rfl ?_
  refine r_aload_n dX10_hints_21 rfl ?_
  refine r_getI dX10_hints_22 fl_X10_413 rfl (kM_0 hM) ?_
  rw [g52]
  refine r_icmp_ge (tgt := 32) dX10_hints_25 (by decide) (fun hz => absurd hz (show ¬ _ from (by decide))) (fun _ => ?_)
  refine r_iconst (v := nI 1) dX10_hints_28 (by decide) ?_
  refine r_goto (tgt := 33) dX10_hints_29 (by decide) ?_
  refine r_iconst (v := nI 1) dX10_hints_33 (by decide) ?_
  refine r_virtE (c_X10_right m true (nI 1) hM g0 (by decide)) lk_X10_343 mc_X10_right dX10_hints_34 hM.1 (by decide) rfl rfl (Nat.le_of_ble_eq_true rfl) ?_
  rw [thM_ok]
  refine r_if_eq (tgt := 48) dX10_hints_37 (by decide) (fun hz => absurd hz (show ¬ _ from (by decide))) (fun _ => ?_)
  refine r_aload_n dX10_hints_40 rfl ?_
  refine r_iload_n dX10_hints_41 rfl ?_
  refine r_virtE (c_sm_b m hM g1 g52) lk_X10_468 mc_X10_smallest dX10_hints_42 hM.1 (by decide) rfl rfl (Nat.le_of_ble_eq_true rfl) ?_
  refine r_goto (tgt := 49) dX10_hints_45 (by decide) ?_
  refine r_iret rfl dX10_hints_49 ?_
  exact ⟨rfl, rfl, rfl, rfl, g0, gJ⟩

set_option maxHeartbeats 4000000 in
set_option maxRecDepth 100000 in
theorem q_hints_no (m : Nat) (x : Int32) {n : Nat} {kd : mK} {I : mI} {J : mJ} {P : mP} (hF : fsM m kd I J P) (hx : ¬ x = 0) : Ct yX10_hints cX10_hints 2 (some .int) 9 0 0 [.ref m, .int x] n kd I J P (pR m n kd I J P (some (.int (nI 0))) 1) := by
  have hM := hF.1
  have hm := hF.2.1
  have hx2 : ¬ x < 0 → nI 1 ≤ x := fun h1 => by
    rw [Int32.lt_iff_toInt_lt, show (0 : Int32).toInt = 0 from by decide] at h1
    rw [Int32.le_iff_toInt_le, show (nI 1).toInt = 1 from by decide]
    have : ¬ x.toInt = 0 := fun q => hx (Int32.toInt_inj.mp q)
    omega
  refine ct_of 0 (by decide +kernel) (Nat.le_of_ble_eq_true rfl) rfl ?_
  refine r_aload_n dX10_hints_0 rfl ?_
  refine r_iconst (v := nI 0) dX10_hints_1 (by decide) ?_
  refine r_putI dX10_hints_2 fl_X10_193 rfl rfl (kM_0 hM) ?_
  rw [hF.th]
  refine r_aload_n dX10_hints_5 rfl ?_
  refine r_virt (c_X10_isFew m 0 9 0 (fun h => lkm 0 (cs0 h)) cs0 false (I (m + 24)) (I (m + 1)) (I (m + 2)) (fun k => !(cs0 k).isEmpty) res0 (fs_rf hF) (by decide) (by decide) (fun k hk => absurd hk (by omega)) (sk_0 _ _ _)) lk_X10_462 mc_X10_isFew dX10_hints_6 hM.1 (by decide) rfl rfl (Nat.le_of_ble_eq_true rfl) (Nat.le_of_eq (Nat.zero_add _)) (Nat.le_of_eq (Nat.zero_add _)) (fun _ _ _ _ _ _ h => nomatch h.1) ?_
  rintro v n1 kd1 I1 J1 P1 ⟨h0, rfl, rfl, rfl, hf, h52, hj, -⟩
  cases h0
  simp only [Option.toList, List.cons_append, List.nil_append]
  rw [fwB_0]
  have g52 : I1 m 52 = nI 1 := h52 fwB_0
  have g1 : I1 m 1 = nI 0 := by rw [hf.2 1 (by decide) (by decide), hm]; rfl
  have g0 : I1 m 0 = nI 0 := by rw [hf.2 0 (by decide) (by decide), hm]; rfl
  have gJ : J1 (m + 56) = J (m + 56) := hj (m + 56) (by omega)
  refine r_if_ne (tgt := 15) dX10_hints_9 (by decide) (fun _ => ?_) (fun hz => absurd hz (show ¬ _ from (by decide)))
  refine r_aload_n dX10_hints_15 rfl ?_
  refine r_iload_n dX10_hints_16 rfl ?_
  refine r_if_lt (tgt := 32) dX10_hints_17 (by decide) (fun h17 => ?_) (fun h17 => ?_)
  · skip
    refine r_iconst (v := nI 0) dX10_hints_32 (by decide) ?_
    refine r_iconst (v := nI 1) dX10_hints_33 (by decide) ?_
    refine r_virtE (c_X10_right m false (nI 1) hM g0 (by decide)) lk_X10_343 mc_X10_right dX10_hints_34 hM.1 (by decide) rfl rfl (Nat.le_of_ble_eq_true rfl) ?_
    refine r_if_eq (tgt := 48) dX10_hints_37 (by decide) (fun _ => ?_) (fun hz => absurd (show _ from rfl) hz)
    refine r_iconst (v := nI 0) dX10_hints_48 (by decide) ?_
    refine r_iret rfl dX10_hints_49 ?_
    refine ⟨rfl, rfl, rfl, rfl, ?_, gJ⟩
    simp only [thM, am_up_s, Bool.false_eq_true, if_false]
  · skip
    refine r_iload_n dX10_hints_20 rfl ?_
    refine r_aload_n dX10_hints_21 rfl ?_
    refine r_getI dX10_hints_22 fl_X10_413 rfl (kM_0 hM) ?_
    rw [g52]
    refine r_icmp_ge (tgt := 32) dX10_hints_25 (by decide) (fun _ => ?_) (fun hz => absurd (show _ from (hx2 h17)) hz)
    refine r_iconst (v := nI 0) dX10_hints_32 (by decide) ?_
    refine r_iconst (v := nI 1) dX10_hints_33 (by decide) ?_
    refine r_virtE (c_X10_right m false (nI 1) hM g0 (by decide)) lk_X10_343 mc_X10_right dX10_hints_34 hM.1 (by decide) rfl rfl (Nat.le_of_ble_eq_true rfl) ?_
    refine r_if_eq (tgt := 48) dX10_hints_37 (by decide) (fun _ => ?_) (fun hz => absurd (show _ from rfl) hz)
    refine r_iconst (v := nI 0) dX10_hints_48 (by decide) ?_
    refine r_iret rfl dX10_hints_49 ?_
    refine ⟨rfl, rfl, rfl, rfl, ?_, gJ⟩
    simp only [thM, am_up_s, Bool.false_eq_true, if_false]

theorem dX10_looks_0 : decode cX10_looks 0 = .ok (.aload_n 0, 1) := by decide +kernel
theorem dX10_looks_1 : decode cX10_looks 1 = .ok (.iconst 0, 1) := by decide +kernel
theorem dX10_looks_2 : decode cX10_looks 2 = .ok (.putfield 193, 3) := by decide +kernel
theorem dX10_looks_5 : decode cX10_looks 5 = .ok (.aload_n 0, 1) := by decide +kernel
theorem dX10_looks_6 : decode cX10_looks 6 = .ok (.iload_n 1, 1) := by decide +kernel
theorem dX10_looks_7 : decode cX10_looks 7 = .ok (.invokevirtual 379, 3) := by decide +kernel
theorem dX10_looks_10 : decode cX10_looks 10 = .ok (.ifCond .ne 5, 3) := by decide +kernel
theorem dX10_looks_13 : decode cX10_looks 13 = .ok (.iconst 0, 1) := by decide +kernel
theorem dX10_looks_14 : decode cX10_looks 14 = .ok (.ireturn, 1) := by decide +kernel
theorem dX10_looks_15 : decode cX10_looks 15 = .ok (.aload_n 0, 1) := by decide +kernel
theorem dX10_looks_16 : decode cX10_looks 16 = .ok (.invokevirtual 455, 3) := by decide +kernel
theorem dX10_looks_19 : decode cX10_looks 19 = .ok (.istore_n 2, 1) := by decide +kernel
theorem dX10_looks_20 : decode cX10_looks 20 = .ok (.iload_n 2, 1) := by decide +kernel
theorem dX10_looks_21 : decode cX10_looks 21 = .ok (.bipush (-2), 2) := by decide +kernel
theorem dX10_looks_23 : decode cX10_looks 23 = .ok (.if_icmp .eq 7, 3) := by decide +kernel
theorem dX10_looks_26 : decode cX10_looks 26 = .ok (.iload_n 1, 1) := by decide +kernel
theorem dX10_looks_27 : decode cX10_looks 27 = .ok (.ifCond .ne 5, 3) := by decide +kernel
theorem dX10_looks_30 : decode cX10_looks 30 = .ok (.iload_n 2, 1) := by decide +kernel
theorem dX10_looks_31 : decode cX10_looks 31 = .ok (.ireturn, 1) := by decide +kernel
theorem dX10_looks_32 : decode cX10_looks 32 = .ok (.aload_n 0, 1) := by decide +kernel
theorem dX10_looks_33 : decode cX10_looks 33 = .ok (.getfield 413, 3) := by decide +kernel
theorem dX10_looks_36 : decode cX10_looks 36 = .ok (.ifCond .ne 7, 3) := by decide +kernel
theorem dX10_looks_39 : decode cX10_looks 39 = .ok (.lconst 0, 1) := by decide +kernel
theorem dX10_looks_40 : decode cX10_looks 40 = .ok (.goto 11, 3) := by decide +kernel
theorem dX10_looks_43 : decode cX10_looks 43 = .ok (.lconst 1, 1) := by decide +kernel
theorem dX10_looks_44 : decode cX10_looks 44 = .ok (.aload_n 0, 1) := by decide +kernel
theorem dX10_looks_45 : decode cX10_looks 45 = .ok (.getfield 413, 3) := by decide +kernel
theorem dX10_looks_48 : decode cX10_looks 48 = .ok (.lshl, 1) := by decide +kernel
theorem dX10_looks_49 : decode cX10_looks 49 = .ok (.lconst 1, 1) := by decide +kernel
theorem dX10_looks_50 : decode cX10_looks 50 = .ok (.lsub, 1) := by decide +kernel
theorem dX10_looks_51 : decode cX10_looks 51 = .ok (.lstore_n 3, 1) := by decide +kernel
theorem dX10_looks_52 : decode cX10_looks 52 = .ok (.iconst 0, 1) := by decide +kernel
theorem dX10_looks_53 : decode cX10_looks 53 = .ok (.istore 5, 2) := by decide +kernel
theorem dX10_looks_55 : decode cX10_looks 55 = .ok (.iload 5, 2) := by decide +kernel
theorem dX10_looks_57 : decode cX10_looks 57 = .ok (.aload_n 0, 1) := by decide +kernel
theorem dX10_looks_58 : decode cX10_looks 58 = .ok (.getfield 350, 3) := by decide +kernel
theorem dX10_looks_61 : decode cX10_looks 61 = .ok (.if_icmp .ge 27, 3) := by decide +kernel
theorem dX10_looks_64 : decode cX10_looks 64 = .ok (.iload_n 2, 1) := by decide +kernel
theorem dX10_looks_65 : decode cX10_looks 65 = .ok (.ifCond .le 23, 3) := by decide +kernel
theorem dX10_looks_68 : decode cX10_looks 68 = .ok (.aload_n 0, 1) := by decide +kernel
theorem dX10_looks_69 : decode cX10_looks 69 = .ok (.lload_n 3, 1) := by decide +kernel
theorem dX10_looks_70 : decode cX10_looks 70 = .ok (.iload_n 2, 1) := by decide +kernel
theorem dX10_looks_71 : decode cX10_looks 71 = .ok (.iload 5, 2) := by decide +kernel
theorem dX10_looks_73 : decode cX10_looks 73 = .ok (.invokevirtual 458, 3) := by decide +kernel
theorem dX10_looks_76 : decode cX10_looks 76 = .ok (.ifCond .eq 6, 3) := by decide +kernel
theorem dX10_looks_79 : decode cX10_looks 79 = .ok (.iload 5, 2) := by decide +kernel
theorem dX10_looks_81 : decode cX10_looks 81 = .ok (.ireturn, 1) := by decide +kernel
theorem dX10_looks_82 : decode cX10_looks 82 = .ok (.iinc 5 1, 3) := by decide +kernel
theorem dX10_looks_85 : decode cX10_looks 85 = .ok (.goto (-30), 3) := by decide +kernel
theorem dX10_looks_88 : decode cX10_looks 88 = .ok (.iconst (-1), 1) := by decide +kernel
theorem dX10_looks_89 : decode cX10_looks 89 = .ok (.ireturn, 1) := by decide +kernel

set_option maxHeartbeats 4000000 in
set_option maxRecDepth 100000 in
theorem q_looks_0 (m : Nat) {n : Nat} {kd : mK} {I : mI} {J : mJ} {P : mP} (hF : fsM m kd I J P) : Ct yX10_looks cX10_looks 6 (some .int) 9 0 0 [.ref m, .int (nI 0)] n kd I J P (pR m n kd I J P (some (.int (nI 0))) 0) := by
  have hM := hF.1
  have hm := hF.2.1
  refine ct_of 4 (by decide +kernel) (Nat.le_of_ble_eq_true rfl) rfl ?_
  refine r_aload_n dX10_looks_0 rfl ?_
  refine r_iconst (v := nI 0) dX10_looks_1 (by decide) ?_
  refine r_putI dX10_looks_2 fl_X10_193 rfl rfl (kM_0 hM) ?_
  rw [hF.th]
  refine r_aload_n dX10_looks_5 rfl ?_
  refine r_iload_n dX10_looks_6 rfl ?_
  refine r_virtE (c_X10_isTwo m (nI 0) hM (by rw [hm]; rfl)) lk_X10_379 mc_X10_isTwo dX10_looks_7 hM.1 (by decide) rfl rfl (Nat.le_of_ble_eq_true rfl) ?_
  rw [show (decide (nI 0 = 0) || decide (nI 0 = nI 1)) = true from by decide]
  rw [thM_ok]
  refine r_if_ne (tgt := 15) dX10_looks_10 (by decide) (fun _ => ?_) (fun hz => absurd hz (show ¬ _ from (by decide)))
  refine r_aload_n dX10_looks_15 rfl ?_
  refine r_virt (c_X10_fewestLooks m 0 9 0 (fun h => lkm 0 (cs0 h)) cs0 false (I (m + 24)) (I (m + 1)) (I (m + 2)) (fun k => !(cs0 k).isEmpty) res0 (fs_rf hF) (by decide) (by decide) (fun k hk => absurd hk (by omega)) (sk_0 _ _ _)) lk_X10_455 mc_X10_fewestLooks dX10_looks_16 hM.1 (by decide) rfl rfl (Nat.le_of_ble_eq_true rfl) (Nat.le_of_eq (Nat.zero_add _)) (Nat.le_of_eq (Nat.zero_add _)) (fun _ _ _ _ _ _ h => nomatch h.1) ?_
  rintro v n1 kd1 I1 J1 P1 ⟨h0, rfl, rfl, rfl, hf1, hf2, hf3⟩
  cases h0
  simp only [Option.toList, List.cons_append, List.nil_append]
  rw [if_pos fwB_0, lookV_0]
  have g1 : I1 m 1 = nI 0 := by rw [hf2 1 (by decide) (by decide), hm]; rfl
  have g0 : I1 m 0 = nI 0 := by rw [hf2 0 (by decide) (by decide), hm]; rfl
  have gJ : J1 (m + 56) = J (m + 56) := hf3 (m + 56) (by omega) (by omega)
  refine r_istore_n dX10_looks_19 (by decide) ?_
  refine r_iload_n dX10_looks_20 rfl ?_
  refine r_bipush (v := -2) dX10_looks_21 (by decide) ?_
  refine r_icmp_eq (tgt := 30) dX10_looks_23 (by decide) (fun hz => absurd hz (show ¬ _ from (by decide))) (fun _ => ?_)
  refine r_iload_n dX10_looks_26 rfl ?_
  refine r_if_ne (tgt := 32) dX10_looks_27 (by decide) (fun hz => absurd (show _ from (by decide)) hz) (fun _ => ?_)
  refine r_iload_n dX10_looks_30 rfl ?_
  refine r_iret rfl dX10_looks_31 ?_
  exact ⟨rfl, rfl, rfl, rfl, g0, gJ⟩

set_option maxHeartbeats 4000000 in
set_option maxRecDepth 100000 in
theorem q_looks_1 (m : Nat) {n : Nat} {kd : mK} {I : mI} {J : mJ} {P : mP} (hF : fsM m kd I J P) : Ct yX10_looks cX10_looks 6 (some .int) 9 0 0 [.ref m, .int (nI 1)] n kd I J P (pR m n kd I J P (some (.int (-1))) 0) := by
  have hM := hF.1
  have hm := hF.2.1
  refine ct_of 4 (by decide +kernel) (Nat.le_of_ble_eq_true rfl) rfl ?_
  refine r_aload_n dX10_looks_0 rfl ?_
  refine r_iconst (v := nI 0) dX10_looks_1 (by decide) ?_
  refine r_putI dX10_looks_2 fl_X10_193 rfl rfl (kM_0 hM) ?_
  rw [hF.th]
  refine r_aload_n dX10_looks_5 rfl ?_
  refine r_iload_n dX10_looks_6 rfl ?_
  refine r_virtE (c_X10_isTwo m (nI 1) hM (by rw [hm]; rfl)) lk_X10_379 mc_X10_isTwo dX10_looks_7 hM.1 (by decide) rfl rfl (Nat.le_of_ble_eq_true rfl) ?_
  rw [show (decide (nI 1 = 0) || decide (nI 1 = nI 1)) = true from by decide]
  rw [thM_ok]
  refine r_if_ne (tgt := 15) dX10_looks_10 (by decide) (fun _ => ?_) (fun hz => absurd hz (show ¬ _ from (by decide)))
  refine r_aload_n dX10_looks_15 rfl ?_
  refine r_virt (c_X10_fewestLooks m 0 9 0 (fun h => lkm 0 (cs0 h)) cs0 false (I (m + 24)) (I (m + 1)) (I (m + 2)) (fun k => !(cs0 k).isEmpty) res0 (fs_rf hF) (by decide) (by decide) (fun k hk => absurd hk (by omega)) (sk_0 _ _ _)) lk_X10_455 mc_X10_fewestLooks dX10_looks_16 hM.1 (by decide) rfl rfl (Nat.le_of_ble_eq_true rfl) (Nat.le_of_eq (Nat.zero_add _)) (Nat.le_of_eq (Nat.zero_add _)) (fun _ _ _ _ _ _ h => nomatch h.1) ?_
  rintro v n1 kd1 I1 J1 P1 ⟨h0, rfl, rfl, rfl, hf1, hf2, hf3⟩
  cases h0
  simp only [Option.toList, List.cons_append, List.nil_append]
  rw [if_pos fwB_0, lookV_0]
  have g1 : I1 m 1 = nI 0 := by rw [hf2 1 (by decide) (by decide), hm]; rfl
  have g0 : I1 m 0 = nI 0 := by rw [hf2 0 (by decide) (by decide), hm]; rfl
  have gJ : J1 (m + 56) = J (m + 56) := hf3 (m + 56) (by omega) (by omega)
  refine r_istore_n dX10_looks_19 (by decide) ?_
  refine r_iload_n dX10_looks_20 rfl ?_
  refine r_bipush (v := -2) dX10_looks_21 (by decide) ?_
  refine r_icmp_eq (tgt := 30) dX10_looks_23 (by decide) (fun hz => absurd hz (show ¬ _ from (by decide))) (fun _ => ?_)
  refine r_iload_n dX10_looks_26 rfl ?_
  refine r_if_ne (tgt := 32) dX10_looks_27 (by decide) (fun _ => ?_) (fun hz => absurd hz (show ¬ _ from (by decide)))
  refine r_aload_n dX10_looks_32 rfl ?_
  refine r_getI dX10_looks_33 fl_X10_413 rfl (kM_0 hM) ?_
  refine r_if_ne (tgt := 43) dX10_looks_36 (by decide) (fun h36 => ?_) (fun h36 => ?_)
  · skip
    refine r_lconst (v := 1) dX10_looks_43 (by decide) ?_
    refine r_aload_n dX10_looks_44 rfl ?_
    refine r_getI dX10_looks_45 fl_X10_413 rfl (kM_0 hM) ?_
    refine r_lshl dX10_looks_48 ?_
    refine r_lconst (v := 1) dX10_looks_49 (by decide) ?_
    refine r_lsub dX10_looks_50 ?_
    refine r_lstore_n dX10_looks_51 (by decide) ?_
    refine r_iconst (v := nI 0) dX10_looks_52 (by decide) ?_
    refine r_istore dX10_looks_53 (by decide) ?_
    refine r_iload dX10_looks_55 rfl ?_
    refine r_aload_n dX10_looks_57 rfl ?_
    refine r_getI dX10_looks_58 fl_X10_350 rfl (kM_0 hM) ?_
    rw [g1]
    refine r_icmp_ge (tgt := 88) dX10_looks_61 (by decide) (fun _ => ?_) (fun hz => absurd (show _ from (by decide)) hz)
    refine r_iconst (v := (-1)) dX10_looks_88 (by decide) ?_
    refine r_iret rfl dX10_looks_89 ?_
    exact ⟨rfl, rfl, rfl, rfl, g0, gJ⟩
  · skip
    refine r_lconst (v := 0) dX10_looks_39 (by decide) ?_
    refine r_goto (tgt := 51) dX10_looks_40 (by decide) ?_
    refine r_lstore_n dX10_looks_51 (by decide) ?_
    refine r_iconst (v := nI 0) dX10_looks_52 (by decide) ?_
    refine r_istore dX10_looks_53 (by decide) ?_
    refine r_iload dX10_looks_55 rfl ?_
    refine r_aload_n dX10_looks_57 rfl ?_
    refine r_getI dX10_looks_58 fl_X10_350 rfl (kM_0 hM) ?_
    rw [g1]
    refine r_icmp_ge (tgt := 88) dX10_looks_61 (by decide) (fun _ => ?_) (fun hz => absurd (show _ from (by decide)) hz)
    refine r_iconst (v := (-1)) dX10_looks_88 (by decide) ?_
    refine r_iret rfl dX10_looks_89 ?_
    exact ⟨rfl, rfl, rfl, rfl, g0, gJ⟩

set_option maxHeartbeats 4000000 in
set_option maxRecDepth 100000 in
theorem q_looks_no (m : Nat) (x : Int32) {n : Nat} {kd : mK} {I : mI} {J : mJ} {P : mP} (hF : fsM m kd I J P) (h0 : ¬ x = 0) (h1 : ¬ x = nI 1) : Ct yX10_looks cX10_looks 6 (some .int) 9 0 0 [.ref m, .int x] n kd I J P (pR m n kd I J P (some (.int (nI 0))) 1) := by
  have hM := hF.1
  have hm := hF.2.1
  refine ct_of 4 (by decide +kernel) (Nat.le_of_ble_eq_true rfl) rfl ?_
  refine r_aload_n dX10_looks_0 rfl ?_
  refine r_iconst (v := nI 0) dX10_looks_1 (by decide) ?_
  refine r_putI dX10_looks_2 fl_X10_193 rfl rfl (kM_0 hM) ?_
  rw [hF.th]
  refine r_aload_n dX10_looks_5 rfl ?_
  refine r_iload_n dX10_looks_6 rfl ?_
  refine r_virtE (c_X10_isTwo m (x) hM (by rw [hm]; rfl)) lk_X10_379 mc_X10_isTwo dX10_looks_7 hM.1 (by decide) rfl rfl (Nat.le_of_ble_eq_true rfl) ?_
  rw [show (decide (x = 0) || decide (x = nI 1)) = false from by rw [decide_eq_false h0, decide_eq_false h1]; rfl]
  refine r_if_ne (tgt := 15) dX10_looks_10 (by decide) (fun hz => absurd (show _ from (by decide)) hz) (fun _ => ?_)
  refine r_iconst (v := nI 0) dX10_looks_13 (by decide) ?_
  refine r_iret rfl dX10_looks_14 ?_
  refine ⟨rfl, rfl, rfl, rfl, ?_, rfl⟩
  simp only [thM, am_up_s, Bool.false_eq_true, if_false]


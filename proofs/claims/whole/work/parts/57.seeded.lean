/-! DRAWS, A SEEDED HOUSE WRITTEN -/
def lcg (x : Int32) : Int32 := x * 1103515245 + nI 12345
def dv (x : Int32) : Nat := (x >>> (nI 16 &&& 31)).toBitVec.toNat % 2 ^ 15
theorem dv_and (x : Int32) : (x >>> (nI 16 &&& 31)) &&& nI 32767 = nI (dv x) := pk_and _ 15 (by decide)
theorem dv_lt (x : Int32) : dv x < 32768 := Nat.mod_lt _ (by decide)
theorem dv_rem (x : Int32) {k : Nat} (h0 : 0 < k) (hk : k < 2 ^ 31) : ((x >>> (nI 16 &&& 31)) &&& nI 32767) - ((x >>> (nI 16 &&& 31)) &&& nI 32767) / nI k * nI k = nI (dv x % k) := by
  have := dv_lt x
  rw [dv_and, pk_rem (by omega) h0 hk]
def dI (d : Nat) (x : Int32) (I : mI) : mI := va_up I d (va_up (I d) 0 x)
theorem dI_0 (d : Nat) (x : Int32) (I : mI) : dI d x I d 0 = x := by unfold dI; rw [am_up_s, am_up_s]
theorem dI_ne {d a : Nat} (x : Int32) (I : mI) (h : a ≠ d) : dI d x I a = I a := am_up_n _ _ h
theorem dI_dI (d : Nat) (x y : Int32) (I : mI) : va_up (dI d x I) d (va_up (dI d x I d) 0 y) = dI d y I := by
  unfold dI
  rw [am_up_s, am_up_up]
  congr 1
  rw [am_up_up]
theorem dI_pg {p d : Nat} (x y : Int32) (bs : List Int32) (I : mI) (h1 : d ≠ p) (h2 : d ≠ p + 1) : va_up (pgI p bs (dI d x I)) d (va_up (pgI p bs (dI d x I) d) 0 y) = pgI p bs (dI d y I) := by
  rw [pgI_ne _ _ h1 h2, ]
  funext a
  by_cases h : a = d
  · subst h
    rw [am_up_s, pgI_ne _ _ h1 h2]
    have := congrFun (dI_dI a x y I) a
    rw [am_up_s] at this
    exact this
  · rw [am_up_n _ _ h]
    unfold pgI
    by_cases hp : a = p
    · simp [hp, dI_ne _ _ (Ne.symm h1)]
    · by_cases hp2 : a = p + 1
      · simp [hp2, dI_ne _ _ (Ne.symm h2)]
      · simp [hp, hp2, dI_ne _ _ h]
set_option maxHeartbeats 4000000 in
set_option maxRecDepth 100000 in
theorem c_nextP (d p k : Nat) (x : Int32) (bs : List Int32) {n : Nat} {kd : mK} {I : mI} {J : mJ} {P : mP} (hk : kd d = some (0, 1)) (h1 : d ≠ p) (h2 : d ≠ p + 1) (hk0 : 0 < k) (hk1 : k < 2 ^ 31) : Ct yX1_next cX1_next 2 (some .int) 1 0 0 [.ref d, .int (nI k)] n kd (pgI p bs (dI d x I)) J P (am_is (some (.int (nI (dv (lcg x) % k)))) n kd (pgI p bs (dI d (lcg x) I)) J P) := by
  have h := c_X1_next (n := n) (I := pgI p bs (dI d x I)) (J := J) (P := P) d (nI k) hk
  have e0 : pgI p bs (dI d x I) d 0 = x := by rw [pgI_ne _ _ h1 h2, dI_0]
  rw [e0, if_pos ((nI_leI (by omega) (by omega)).mpr (by omega)), dv_rem _ hk0 hk1, dI_pg _ _ _ _ h1 h2] at h
  exact h
/-- what a seeded house's line is, and the seed behind it -/
def sdH (x : Int32) (h M : Nat) : List Int32 × Int32 :=
  if dv (lcg x) % 4 = 1 then (sB.getD 2 [] ++ (sB.getD 18 [] ++ (dg (1 + dv (lcg (lcg x)) % M) ++ [nI 59])), lcg (lcg x))
  else if dv (lcg x) % 4 = 2 ∧ 0 < h then (sB.getD 2 [] ++ (sB.getD 19 [] ++ (dg (dv (lcg (lcg x)) % h) ++ ([nI 43] ++ (dg (dv (lcg (lcg (lcg x))) % 4) ++ [nI 59])))), lcg (lcg (lcg x)))
  else if dv (lcg x) % 4 = 3 ∧ 0 < h then (sB.getD 2 [] ++ (sB.getD 20 [] ++ (dg (dv (lcg (lcg x)) % h) ++ [nI 59])), lcg (lcg x))
  else (sB.getD 2 [] ++ [nI 59], lcg x)
theorem dX4_writeSeededHouse_0 : decode cX4_writeSeededHouse 0 = .ok (.aload_n 0, 1) := by decide +kernel
theorem dX4_writeSeededHouse_1 : decode cX4_writeSeededHouse 1 = .ok (.ldc 85, 2) := by decide +kernel
theorem dX4_writeSeededHouse_3 : decode cX4_writeSeededHouse 3 = .ok (.invokevirtual 32, 3) := by decide +kernel
theorem dX4_writeSeededHouse_6 : decode cX4_writeSeededHouse 6 = .ok (.aload_n 1, 1) := by decide +kernel
theorem dX4_writeSeededHouse_7 : decode cX4_writeSeededHouse 7 = .ok (.iconst 4, 1) := by decide +kernel
theorem dX4_writeSeededHouse_8 : decode cX4_writeSeededHouse 8 = .ok (.invokevirtual 87, 3) := by decide +kernel
theorem dX4_writeSeededHouse_11 : decode cX4_writeSeededHouse 11 = .ok (.istore 4, 2) := by decide +kernel
theorem dX4_writeSeededHouse_13 : decode cX4_writeSeededHouse 13 = .ok (.iload 4, 2) := by decide +kernel
theorem dX4_writeSeededHouse_15 : decode cX4_writeSeededHouse 15 = .ok (.iconst 1, 1) := by decide +kernel
theorem dX4_writeSeededHouse_16 : decode cX4_writeSeededHouse 16 = .ok (.if_icmp .ne 23, 3) := by decide +kernel
theorem dX4_writeSeededHouse_19 : decode cX4_writeSeededHouse 19 = .ok (.aload_n 0, 1) := by decide +kernel
theorem dX4_writeSeededHouse_20 : decode cX4_writeSeededHouse 20 = .ok (.ldc 93, 2) := by decide +kernel
theorem dX4_writeSeededHouse_22 : decode cX4_writeSeededHouse 22 = .ok (.invokevirtual 32, 3) := by decide +kernel
theorem dX4_writeSeededHouse_25 : decode cX4_writeSeededHouse 25 = .ok (.aload_n 0, 1) := by decide +kernel
theorem dX4_writeSeededHouse_26 : decode cX4_writeSeededHouse 26 = .ok (.iconst 1, 1) := by decide +kernel
theorem dX4_writeSeededHouse_27 : decode cX4_writeSeededHouse 27 = .ok (.aload_n 1, 1) := by decide +kernel
theorem dX4_writeSeededHouse_28 : decode cX4_writeSeededHouse 28 = .ok (.iload_n 3, 1) := by decide +kernel
theorem dX4_writeSeededHouse_29 : decode cX4_writeSeededHouse 29 = .ok (.invokevirtual 87, 3) := by decide +kernel
theorem dX4_writeSeededHouse_32 : decode cX4_writeSeededHouse 32 = .ok (.iadd, 1) := by decide +kernel
theorem dX4_writeSeededHouse_33 : decode cX4_writeSeededHouse 33 = .ok (.invokevirtual 41, 3) := by decide +kernel
theorem dX4_writeSeededHouse_36 : decode cX4_writeSeededHouse 36 = .ok (.goto 71, 3) := by decide +kernel
theorem dX4_writeSeededHouse_39 : decode cX4_writeSeededHouse 39 = .ok (.iload 4, 2) := by decide +kernel
theorem dX4_writeSeededHouse_41 : decode cX4_writeSeededHouse 41 = .ok (.iconst 2, 1) := by decide +kernel
theorem dX4_writeSeededHouse_42 : decode cX4_writeSeededHouse 42 = .ok (.if_icmp .ne 40, 3) := by decide +kernel
theorem dX4_writeSeededHouse_45 : decode cX4_writeSeededHouse 45 = .ok (.iload_n 2, 1) := by decide +kernel
theorem dX4_writeSeededHouse_46 : decode cX4_writeSeededHouse 46 = .ok (.ifCond .le 36, 3) := by decide +kernel
theorem dX4_writeSeededHouse_49 : decode cX4_writeSeededHouse 49 = .ok (.aload_n 0, 1) := by decide +kernel
theorem dX4_writeSeededHouse_50 : decode cX4_writeSeededHouse 50 = .ok (.ldc 95, 2) := by decide +kernel
theorem dX4_writeSeededHouse_52 : decode cX4_writeSeededHouse 52 = .ok (.invokevirtual 32, 3) := by decide +kernel
theorem dX4_writeSeededHouse_55 : decode cX4_writeSeededHouse 55 = .ok (.aload_n 0, 1) := by decide +kernel
theorem dX4_writeSeededHouse_56 : decode cX4_writeSeededHouse 56 = .ok (.aload_n 1, 1) := by decide +kernel
theorem dX4_writeSeededHouse_57 : decode cX4_writeSeededHouse 57 = .ok (.iload_n 2, 1) := by decide +kernel
theorem dX4_writeSeededHouse_58 : decode cX4_writeSeededHouse 58 = .ok (.invokevirtual 87, 3) := by decide +kernel
theorem dX4_writeSeededHouse_61 : decode cX4_writeSeededHouse 61 = .ok (.invokevirtual 41, 3) := by decide +kernel
theorem dX4_writeSeededHouse_64 : decode cX4_writeSeededHouse 64 = .ok (.aload_n 0, 1) := by decide +kernel
theorem dX4_writeSeededHouse_65 : decode cX4_writeSeededHouse 65 = .ok (.bipush 43, 2) := by decide +kernel
theorem dX4_writeSeededHouse_67 : decode cX4_writeSeededHouse 67 = .ok (.invokevirtual 26, 3) := by decide +kernel
theorem dX4_writeSeededHouse_70 : decode cX4_writeSeededHouse 70 = .ok (.aload_n 0, 1) := by decide +kernel
theorem dX4_writeSeededHouse_71 : decode cX4_writeSeededHouse 71 = .ok (.aload_n 1, 1) := by decide +kernel
theorem dX4_writeSeededHouse_72 : decode cX4_writeSeededHouse 72 = .ok (.iconst 4, 1) := by decide +kernel
theorem dX4_writeSeededHouse_73 : decode cX4_writeSeededHouse 73 = .ok (.invokevirtual 87, 3) := by decide +kernel
theorem dX4_writeSeededHouse_76 : decode cX4_writeSeededHouse 76 = .ok (.invokevirtual 41, 3) := by decide +kernel
theorem dX4_writeSeededHouse_79 : decode cX4_writeSeededHouse 79 = .ok (.goto 28, 3) := by decide +kernel
theorem dX4_writeSeededHouse_82 : decode cX4_writeSeededHouse 82 = .ok (.iload 4, 2) := by decide +kernel
theorem dX4_writeSeededHouse_84 : decode cX4_writeSeededHouse 84 = .ok (.iconst 3, 1) := by decide +kernel
theorem dX4_writeSeededHouse_85 : decode cX4_writeSeededHouse 85 = .ok (.if_icmp .ne 22, 3) := by decide +kernel
theorem dX4_writeSeededHouse_88 : decode cX4_writeSeededHouse 88 = .ok (.iload_n 2, 1) := by decide +kernel
theorem dX4_writeSeededHouse_89 : decode cX4_writeSeededHouse 89 = .ok (.ifCond .le 18, 3) := by decide +kernel
theorem dX4_writeSeededHouse_92 : decode cX4_writeSeededHouse 92 = .ok (.aload_n 0, 1) := by decide +kernel
theorem dX4_writeSeededHouse_93 : decode cX4_writeSeededHouse 93 = .ok (.ldc 97, 2) := by decide +kernel
theorem dX4_writeSeededHouse_95 : decode cX4_writeSeededHouse 95 = .ok (.invokevirtual 32, 3) := by decide +kernel
theorem dX4_writeSeededHouse_98 : decode cX4_writeSeededHouse 98 = .ok (.aload_n 0, 1) := by decide +kernel
theorem dX4_writeSeededHouse_99 : decode cX4_writeSeededHouse 99 = .ok (.aload_n 1, 1) := by decide +kernel
theorem dX4_writeSeededHouse_100 : decode cX4_writeSeededHouse 100 = .ok (.iload_n 2, 1) := by decide +kernel
theorem dX4_writeSeededHouse_101 : decode cX4_writeSeededHouse 101 = .ok (.invokevirtual 87, 3) := by decide +kernel
theorem dX4_writeSeededHouse_104 : decode cX4_writeSeededHouse 104 = .ok (.invokevirtual 41, 3) := by decide +kernel
theorem dX4_writeSeededHouse_107 : decode cX4_writeSeededHouse 107 = .ok (.aload_n 0, 1) := by decide +kernel
theorem dX4_writeSeededHouse_108 : decode cX4_writeSeededHouse 108 = .ok (.bipush 59, 2) := by decide +kernel
theorem dX4_writeSeededHouse_110 : decode cX4_writeSeededHouse 110 = .ok (.invokevirtual 26, 3) := by decide +kernel
theorem dX4_writeSeededHouse_113 : decode cX4_writeSeededHouse 113 = .ok (.return_, 1) := by decide +kernel

set_option maxHeartbeats 4000000 in
set_option maxRecDepth 100000 in
theorem c_X4_writeSeededHouse (p d h M : Nat) (x : Int32) (bs : List Int32) {n : Nat} {kd : mK} {I : mI} {J : mJ} {P : mP} (hP : kPg kd P p) (hD : kd d = some (0, 1)) (hd1 : d ≠ p) (hd2 : d ≠ p + 1) (hh : h < 8) (hM0 : 0 < M) (hM : M ≤ 20) (hl : bs.length + 40 ≤ 1200) : Ct yX4_writeSeededHouse cX4_writeSeededHouse 5 none 7 0 0 [.ref p, .ref d, .int (nI h), .int (nI M)] n kd (pgI p bs (dI d x I)) J P (am_is none n kd (pgI p (bs ++ (sdH x h M).1) (dI d (sdH x h M).2 I)) J P) := by
  have b2 : (sB.getD 2 []).length = 5 := by decide
  have b18 : (sB.getD 18 []).length = 11 := by decide
  have b19 : (sB.getD 19 []).length = 14 := by decide
  have b20 : (sB.getD 20 []).length = 18 := by decide
  have n2 : sN 2 = 5 := by decide
  have n18 : sN 18 = 11 := by decide
  have n19 : sN 19 = 14 := by decide
  have n20 : sN 20 = 18 := by decide
  have l1 := dg_len (1 + dv (lcg (lcg x)) % M)
  have l2 := dg_len (dv (lcg (lcg x)) % h)
  have l3 := dg_len (dv (lcg (lcg (lcg x))) % 4)
  have m4 := Nat.mod_lt (dv (lcg x)) (show 0 < 4 by omega)
  have m5 := Nat.mod_lt (dv (lcg (lcg (lcg x)))) (show 0 < 4 by omega)
  unfold sdH
  refine ct_of 1 (by decide +kernel) (Nat.le_of_ble_eq_true rfl) rfl ?_
  by_cases e1 : dv (lcg x) % 4 = 1
  · skip
    refine r_aload_n dX4_writeSeededHouse_0 rfl ?_
    refine r_ldcS (i := 2) dX4_writeSeededHouse_1 sr_X4_85 (by decide) ?_
    refine r_virtV (c_X4_putWord p 2 (bs) hP (by decide) (by simp only [List.length_append, List.length_cons, List.length_nil, b2, b18, b19, b20, n2, n18, n19, n20]; omega)) lk_X4_32 mc_X4_putWord dX4_writeSeededHouse_3 hP.1 (by decide) rfl rfl (Nat.le_of_ble_eq_true rfl) ?_
    try simp only [List.append_assoc]
    refine r_aload_n dX4_writeSeededHouse_6 rfl ?_
    refine r_iconst (v := nI 4) dX4_writeSeededHouse_7 (by decide) ?_
    refine r_virtE (c_nextP d p 4 (x) (bs ++ (sB.getD 2 [])) hD hd1 hd2 (by omega) (by omega)) lk_X4_87 mc_X1_next dX4_writeSeededHouse_8 hD (by decide) rfl rfl (Nat.le_of_ble_eq_true rfl) ?_
    refine r_istore dX4_writeSeededHouse_11 (by decide) ?_
    refine r_iload dX4_writeSeededHouse_13 rfl ?_
    refine r_iconst (v := nI 1) dX4_writeSeededHouse_15 (by decide) ?_
    refine r_icmp_ne (tgt := 39) dX4_writeSeededHouse_16 (by decide) (fun hz => absurd (show _ from by rw [e1]) hz) (fun _ => ?_)
    refine r_aload_n dX4_writeSeededHouse_19 rfl ?_
    refine r_ldcS (i := 18) dX4_writeSeededHouse_20 sr_X4_93 (by decide) ?_
    refine r_virtV (c_X4_putWord p 18 (bs ++ (sB.getD 2 [])) hP (by decide) (by simp only [List.length_append, List.length_cons, List.length_nil, b2, b18, b19, b20, n2, n18, n19, n20]; omega)) lk_X4_32 mc_X4_putWord dX4_writeSeededHouse_22 hP.1 (by decide) rfl rfl (Nat.le_of_ble_eq_true rfl) ?_
    try simp only [List.append_assoc]
    refine r_aload_n dX4_writeSeededHouse_25 rfl ?_
    refine r_iconst (v := nI 1) dX4_writeSeededHouse_26 (by decide) ?_
    refine r_aload_n dX4_writeSeededHouse_27 rfl ?_
    refine r_iload_n dX4_writeSeededHouse_28 rfl ?_
    refine r_virtE (c_nextP d p M (lcg x) (bs ++ (sB.getD 2 [] ++ (sB.getD 18 []))) hD hd1 hd2 (by omega) (by omega)) lk_X4_87 mc_X1_next dX4_writeSeededHouse_29 hD (by decide) rfl rfl (Nat.le_of_ble_eq_true rfl) ?_
    refine r_iadd dX4_writeSeededHouse_32 ?_
    rw [nI_add]
    refine r_virtV (c_X4_putNumber p (1 + dv (lcg (lcg x)) % M) (bs ++ (sB.getD 2 [] ++ (sB.getD 18 []))) hP (by have := Nat.mod_lt (dv (lcg (lcg x))) (show 0 < M by omega); omega) (by simp only [List.length_append, List.length_cons, List.length_nil, b2, b18, b19, b20, n2, n18, n19, n20]; omega)) lk_X4_41 mc_X4_putNumber dX4_writeSeededHouse_33 hP.1 (by decide) rfl rfl (Nat.le_of_ble_eq_true rfl) ?_
    try simp only [List.append_assoc]
    refine r_goto (tgt := 107) dX4_writeSeededHouse_36 (by decide) ?_
    refine r_aload_n dX4_writeSeededHouse_107 rfl ?_
    refine r_bipush (v := nI 59) dX4_writeSeededHouse_108 (by decide) ?_
    refine r_virtV (c_X4_put p (nI 59) (nI 59) (bs ++ (sB.getD 2 [] ++ (sB.getD 18 [] ++ (dg (1 + dv (lcg (lcg x)) % M))))) hP (i2b_small _ (by decide)) (by simp only [List.length_append, List.length_cons, List.length_nil, b2, b18, b19, b20, n2, n18, n19, n20]; omega)) lk_X4_26 mc_X4_put dX4_writeSeededHouse_110 hP.1 (by decide) rfl rfl (Nat.le_of_ble_eq_true rfl) ?_
    try simp only [List.append_assoc]
    refine r_vret rfl dX4_writeSeededHouse_113 ?_
    rw [if_pos e1]
    exact am_is.mk
  by_cases e2 : dv (lcg x) % 4 = 2 ∧ 0 < h
  · skip
    refine r_aload_n dX4_writeSeededHouse_0 rfl ?_
    refine r_ldcS (i := 2) dX4_writeSeededHouse_1 sr_X4_85 (by decide) ?_
    refine r_virtV (c_X4_putWord p 2 (bs) hP (by decide) (by simp only [List.length_append, List.length_cons, List.length_nil, b2, b18, b19, b20, n2, n18, n19, n20]; omega)) lk_X4_32 mc_X4_putWord dX4_writeSeededHouse_3 hP.1 (by decide) rfl rfl (Nat.le_of_ble_eq_true rfl) ?_
    try simp only [List.append_assoc]
    refine r_aload_n dX4_writeSeededHouse_6 rfl ?_
    refine r_iconst (v := nI 4) dX4_writeSeededHouse_7 (by decide) ?_
    refine r_virtE (c_nextP d p 4 (x) (bs ++ (sB.getD 2 [])) hD hd1 hd2 (by omega) (by omega)) lk_X4_87 mc_X1_next dX4_writeSeededHouse_8 hD (by decide) rfl rfl (Nat.le_of_ble_eq_true rfl) ?_
    refine r_istore dX4_writeSeededHouse_11 (by decide) ?_
    refine r_iload dX4_writeSeededHouse_13 rfl ?_
    refine r_iconst (v := nI 1) dX4_writeSeededHouse_15 (by decide) ?_
    refine r_icmp_ne (tgt := 39) dX4_writeSeededHouse_16 (by decide) (fun _ => ?_) (fun hz => absurd hz (show ¬ _ from by rw [nI_eq (by omega) (by omega)]; exact e1))
    refine r_iload dX4_writeSeededHouse_39 rfl ?_
    refine r_iconst (v := nI 2) dX4_writeSeededHouse_41 (by decide) ?_
    refine r_icmp_ne (tgt := 82) dX4_writeSeededHouse_42 (by decide) (fun hz => absurd (show _ from by rw [e2.1]) hz) (fun _ => ?_)
    refine r_iload_n dX4_writeSeededHouse_45 rfl ?_
    refine r_if_le (tgt := 82) dX4_writeSeededHouse_46 (by decide) (fun hz => absurd hz (show ¬ _ from by rw [← nI_0, nI_leI (by omega) (by omega)]; omega)) (fun _ => ?_)
    refine r_aload_n dX4_writeSeededHouse_49 rfl ?_
    refine r_ldcS (i := 19) dX4_writeSeededHouse_50 sr_X4_95 (by decide) ?_
    refine r_virtV (c_X4_putWord p 19 (bs ++ (sB.getD 2 [])) hP (by decide) (by simp only [List.length_append, List.length_cons, List.length_nil, b2, b18, b19, b20, n2, n18, n19, n20]; omega)) lk_X4_32 mc_X4_putWord dX4_writeSeededHouse_52 hP.1 (by decide) rfl rfl (Nat.le_of_ble_eq_true rfl) ?_
    try simp only [List.append_assoc]
    refine r_aload_n dX4_writeSeededHouse_55 rfl ?_
    refine r_aload_n dX4_writeSeededHouse_56 rfl ?_
    refine r_iload_n dX4_writeSeededHouse_57 rfl ?_
    refine r_virtE (c_nextP d p h (lcg x) (bs ++ (sB.getD 2 [] ++ (sB.getD 19 []))) hD hd1 hd2 (e2.2) (by omega)) lk_X4_87 mc_X1_next dX4_writeSeededHouse_58 hD (by decide) rfl rfl (Nat.le_of_ble_eq_true rfl) ?_
    refine r_virtV (c_X4_putNumber p (dv (lcg (lcg x)) % h) (bs ++ (sB.getD 2 [] ++ (sB.getD 19 []))) hP (by have := Nat.mod_lt (dv (lcg (lcg x))) (show 0 < h by omega); omega) (by simp only [List.length_append, List.length_cons, List.length_nil, b2, b18, b19, b20, n2, n18, n19, n20]; omega)) lk_X4_41 mc_X4_putNumber dX4_writeSeededHouse_61 hP.1 (by decide) rfl rfl (Nat.le_of_ble_eq_true rfl) ?_
    try simp only [List.append_assoc]
    refine r_aload_n dX4_writeSeededHouse_64 rfl ?_
    refine r_bipush (v := nI 43) dX4_writeSeededHouse_65 (by decide) ?_
    refine r_virtV (c_X4_put p (nI 43) (nI 43) (bs ++ (sB.getD 2 [] ++ (sB.getD 19 [] ++ (dg (dv (lcg (lcg x)) % h))))) hP (i2b_small _ (by decide)) (by simp only [List.length_append, List.length_cons, List.length_nil, b2, b18, b19, b20, n2, n18, n19, n20]; omega)) lk_X4_26 mc_X4_put dX4_writeSeededHouse_67 hP.1 (by decide) rfl rfl (Nat.le_of_ble_eq_true rfl) ?_
    try simp only [List.append_assoc]
    refine r_aload_n dX4_writeSeededHouse_70 rfl ?_
    refine r_aload_n dX4_writeSeededHouse_71 rfl ?_
    refine r_iconst (v := nI 4) dX4_writeSeededHouse_72 (by decide) ?_
    refine r_virtE (c_nextP d p 4 (lcg (lcg x)) (bs ++ (sB.getD 2 [] ++ (sB.getD 19 [] ++ (dg (dv (lcg (lcg x)) % h) ++ ([nI 43]))))) hD hd1 hd2 (by omega) (by omega)) lk_X4_87 mc_X1_next dX4_writeSeededHouse_73 hD (by decide) rfl rfl (Nat.le_of_ble_eq_true rfl) ?_
    refine r_virtV (c_X4_putNumber p (dv (lcg (lcg (lcg x))) % 4) (bs ++ (sB.getD 2 [] ++ (sB.getD 19 [] ++ (dg (dv (lcg (lcg x)) % h) ++ ([nI 43]))))) hP (by omega) (by simp only [List.length_append, List.length_cons, List.length_nil, b2, b18, b19, b20, n2, n18, n19, n20]; omega)) lk_X4_41 mc_X4_putNumber dX4_writeSeededHouse_76 hP.1 (by decide) rfl rfl (Nat.le_of_ble_eq_true rfl) ?_
    try simp only [List.append_assoc]
    refine r_goto (tgt := 107) dX4_writeSeededHouse_79 (by decide) ?_
    refine r_aload_n dX4_writeSeededHouse_107 rfl ?_
    refine r_bipush (v := nI 59) dX4_writeSeededHouse_108 (by decide) ?_
    refine r_virtV (c_X4_put p (nI 59) (nI 59) (bs ++ (sB.getD 2 [] ++ (sB.getD 19 [] ++ (dg (dv (lcg (lcg x)) % h) ++ ([nI 43] ++ (dg (dv (lcg (lcg (lcg x))) % 4))))))) hP (i2b_small _ (by decide)) (by simp only [List.length_append, List.length_cons, List.length_nil, b2, b18, b19, b20, n2, n18, n19, n20]; omega)) lk_X4_26 mc_X4_put dX4_writeSeededHouse_110 hP.1 (by decide) rfl rfl (Nat.le_of_ble_eq_true rfl) ?_
    try simp only [List.append_assoc]
    refine r_vret rfl dX4_writeSeededHouse_113 ?_
    rw [if_neg e1, if_pos e2]
    exact am_is.mk
  by_cases e3 : dv (lcg x) % 4 = 3 ∧ 0 < h
  · skip
    refine r_aload_n dX4_writeSeededHouse_0 rfl ?_
    refine r_ldcS (i := 2) dX4_writeSeededHouse_1 sr_X4_85 (by decide) ?_
    refine r_virtV (c_X4_putWord p 2 (bs) hP (by decide) (by simp only [List.length_append, List.length_cons, List.length_nil, b2, b18, b19, b20, n2, n18, n19, n20]; omega)) lk_X4_32 mc_X4_putWord dX4_writeSeededHouse_3 hP.1 (by decide) rfl rfl (Nat.le_of_ble_eq_true rfl) ?_
    try simp only [List.append_assoc]
    refine r_aload_n dX4_writeSeededHouse_6 rfl ?_
    refine r_iconst (v := nI 4) dX4_writeSeededHouse_7 (by decide) ?_
    refine r_virtE (c_nextP d p 4 (x) (bs ++ (sB.getD 2 [])) hD hd1 hd2 (by omega) (by omega)) lk_X4_87 mc_X1_next dX4_writeSeededHouse_8 hD (by decide) rfl rfl (Nat.le_of_ble_eq_true rfl) ?_
    refine r_istore dX4_writeSeededHouse_11 (by decide) ?_
    refine r_iload dX4_writeSeededHouse_13 rfl ?_
    refine r_iconst (v := nI 1) dX4_writeSeededHouse_15 (by decide) ?_
    refine r_icmp_ne (tgt := 39) dX4_writeSeededHouse_16 (by decide) (fun _ => ?_) (fun hz => absurd hz (show ¬ _ from by rw [nI_eq (by omega) (by omega)]; exact e1))
    refine r_iload dX4_writeSeededHouse_39 rfl ?_
    refine r_iconst (v := nI 2) dX4_writeSeededHouse_41 (by decide) ?_
    refine r_icmp_ne (tgt := 82) dX4_writeSeededHouse_42 (by decide) (fun _ => ?_) (fun hz => absurd hz (show ¬ _ from by rw [e3.1]; decide))
    refine r_iload dX4_writeSeededHouse_82 rfl ?_
    refine r_iconst (v := nI 3) dX4_writeSeededHouse_84 (by decide) ?_
    refine r_icmp_ne (tgt := 107) dX4_writeSeededHouse_85 (by decide) (fun hz => absurd (show _ from by rw [e3.1]) hz) (fun _ => ?_)
    refine r_iload_n dX4_writeSeededHouse_88 rfl ?_
    refine r_if_le (tgt := 107) dX4_writeSeededHouse_89 (by decide) (fun hz => absurd hz (show ¬ _ from by rw [← nI_0, nI_leI (by omega) (by omega)]; omega)) (fun _ => ?_)
    refine r_aload_n dX4_writeSeededHouse_92 rfl ?_
    refine r_ldcS (i := 20) dX4_writeSeededHouse_93 sr_X4_97 (by decide) ?_
    refine r_virtV (c_X4_putWord p 20 (bs ++ (sB.getD 2 [])) hP (by decide) (by simp only [List.length_append, List.length_cons, List.length_nil, b2, b18, b19, b20, n2, n18, n19, n20]; omega)) lk_X4_32 mc_X4_putWord dX4_writeSeededHouse_95 hP.1 (by decide) rfl rfl (Nat.le_of_ble_eq_true rfl) ?_
    try simp only [List.append_assoc]
    refine r_aload_n dX4_writeSeededHouse_98 rfl ?_
    refine r_aload_n dX4_writeSeededHouse_99 rfl ?_
    refine r_iload_n dX4_writeSeededHouse_100 rfl ?_
    refine r_virtE (c_nextP d p h (lcg x) (bs ++ (sB.getD 2 [] ++ (sB.getD 20 []))) hD hd1 hd2 (e3.2) (by omega)) lk_X4_87 mc_X1_next dX4_writeSeededHouse_101 hD (by decide) rfl rfl (Nat.le_of_ble_eq_true rfl) ?_
    refine r_virtV (c_X4_putNumber p (dv (lcg (lcg x)) % h) (bs ++ (sB.getD 2 [] ++ (sB.getD 20 []))) hP (by have := Nat.mod_lt (dv (lcg (lcg x))) (show 0 < h by omega); omega) (by simp only [List.length_append, List.length_cons, List.length_nil, b2, b18, b19, b20, n2, n18, n19, n20]; omega)) lk_X4_41 mc_X4_putNumber dX4_writeSeededHouse_104 hP.1 (by decide) rfl rfl (Nat.le_of_ble_eq_true rfl) ?_
    try simp only [List.append_assoc]
    refine r_aload_n dX4_writeSeededHouse_107 rfl ?_
    refine r_bipush (v := nI 59) dX4_writeSeededHouse_108 (by decide) ?_
    refine r_virtV (c_X4_put p (nI 59) (nI 59) (bs ++ (sB.getD 2 [] ++ (sB.getD 20 [] ++ (dg (dv (lcg (lcg x)) % h))))) hP (i2b_small _ (by decide)) (by simp only [List.length_append, List.length_cons, List.length_nil, b2, b18, b19, b20, n2, n18, n19, n20]; omega)) lk_X4_26 mc_X4_put dX4_writeSeededHouse_110 hP.1 (by decide) rfl rfl (Nat.le_of_ble_eq_true rfl) ?_
    try simp only [List.append_assoc]
    refine r_vret rfl dX4_writeSeededHouse_113 ?_
    rw [if_neg e1, if_neg e2, if_pos e3]
    exact am_is.mk
  by_cases h2 : dv (lcg x) % 4 = 2
  · skip
    refine r_aload_n dX4_writeSeededHouse_0 rfl ?_
    refine r_ldcS (i := 2) dX4_writeSeededHouse_1 sr_X4_85 (by decide) ?_
    refine r_virtV (c_X4_putWord p 2 (bs) hP (by decide) (by simp only [List.length_append, List.length_cons, List.length_nil, b2, b18, b19, b20, n2, n18, n19, n20]; omega)) lk_X4_32 mc_X4_putWord dX4_writeSeededHouse_3 hP.1 (by decide) rfl rfl (Nat.le_of_ble_eq_true rfl) ?_
    try simp only [List.append_assoc]
    refine r_aload_n dX4_writeSeededHouse_6 rfl ?_
    refine r_iconst (v := nI 4) dX4_writeSeededHouse_7 (by decide) ?_
    refine r_virtE (c_nextP d p 4 (x) (bs ++ (sB.getD 2 [])) hD hd1 hd2 (by omega) (by omega)) lk_X4_87 mc_X1_next dX4_writeSeededHouse_8 hD (by decide) rfl rfl (Nat.le_of_ble_eq_true rfl) ?_
    refine r_istore dX4_writeSeededHouse_11 (by decide) ?_
    refine r_iload dX4_writeSeededHouse_13 rfl ?_
    refine r_iconst (v := nI 1) dX4_writeSeededHouse_15 (by decide) ?_
    refine r_icmp_ne (tgt := 39) dX4_writeSeededHouse_16 (by decide) (fun _ => ?_) (fun hz => absurd hz (show ¬ _ from by rw [nI_eq (by omega) (by omega)]; exact e1))
    refine r_iload dX4_writeSeededHouse_39 rfl ?_
    refine r_iconst (v := nI 2) dX4_writeSeededHouse_41 (by decide) ?_
    refine r_icmp_ne (tgt := 82) dX4_writeSeededHouse_42 (by decide) (fun hz => absurd (show _ from by rw [h2]) hz) (fun _ => ?_)
    refine r_iload_n dX4_writeSeededHouse_45 rfl ?_
    refine r_if_le (tgt := 82) dX4_writeSeededHouse_46 (by decide) (fun _ => ?_) (fun hz => absurd (show _ from by rw [← nI_0, nI_leI (by omega) (by omega)]; omega) hz)
    refine r_iload dX4_writeSeededHouse_82 rfl ?_
    refine r_iconst (v := nI 3) dX4_writeSeededHouse_84 (by decide) ?_
    refine r_icmp_ne (tgt := 107) dX4_writeSeededHouse_85 (by decide) (fun _ => ?_) (fun hz => absurd hz (show ¬ _ from by rw [h2]; decide))
    refine r_aload_n dX4_writeSeededHouse_107 rfl ?_
    refine r_bipush (v := nI 59) dX4_writeSeededHouse_108 (by decide) ?_
    refine r_virtV (c_X4_put p (nI 59) (nI 59) (bs ++ (sB.getD 2 [])) hP (i2b_small _ (by decide)) (by simp only [List.length_append, List.length_cons, List.length_nil, b2, b18, b19, b20, n2, n18, n19, n20]; omega)) lk_X4_26 mc_X4_put dX4_writeSeededHouse_110 hP.1 (by decide) rfl rfl (Nat.le_of_ble_eq_true rfl) ?_
    try simp only [List.append_assoc]
    refine r_vret rfl dX4_writeSeededHouse_113 ?_
    rw [if_neg e1, if_neg e2, if_neg e3]
    exact am_is.mk
  · by_cases h3 : dv (lcg x) % 4 = 3
    · skip
      refine r_aload_n dX4_writeSeededHouse_0 rfl ?_
      refine r_ldcS (i := 2) dX4_writeSeededHouse_1 sr_X4_85 (by decide) ?_
      refine r_virtV (c_X4_putWord p 2 (bs) hP (by decide) (by simp only [List.length_append, List.length_cons, List.length_nil, b2, b18, b19, b20, n2, n18, n19, n20]; omega)) lk_X4_32 mc_X4_putWord dX4_writeSeededHouse_3 hP.1 (by decide) rfl rfl (Nat.le_of_ble_eq_true rfl) ?_
      try simp only [List.append_assoc]
      refine r_aload_n dX4_writeSeededHouse_6 rfl ?_
      refine r_iconst (v := nI 4) dX4_writeSeededHouse_7 (by decide) ?_
      refine r_virtE (c_nextP d p 4 (x) (bs ++ (sB.getD 2 [])) hD hd1 hd2 (by omega) (by omega)) lk_X4_87 mc_X1_next dX4_writeSeededHouse_8 hD (by decide) rfl rfl (Nat.le_of_ble_eq_true rfl) ?_
      refine r_istore dX4_writeSeededHouse_11 (by decide) ?_
      refine r_iload dX4_writeSeededHouse_13 rfl ?_
      refine r_iconst (v := nI 1) dX4_writeSeededHouse_15 (by decide) ?_
      refine r_icmp_ne (tgt := 39) dX4_writeSeededHouse_16 (by decide) (fun _ => ?_) (fun hz => absurd hz (show ¬ _ from by rw [nI_eq (by omega) (by omega)]; exact e1))
      refine r_iload dX4_writeSeededHouse_39 rfl ?_
      refine r_iconst (v := nI 2) dX4_writeSeededHouse_41 (by decide) ?_
      refine r_icmp_ne (tgt := 82) dX4_writeSeededHouse_42 (by decide) (fun _ => ?_) (fun hz => absurd hz (show ¬ _ from by rw [nI_eq (by omega) (by omega)]; exact h2))
      refine r_iload dX4_writeSeededHouse_82 rfl ?_
      refine r_iconst (v := nI 3) dX4_writeSeededHouse_84 (by decide) ?_
      refine r_icmp_ne (tgt := 107) dX4_writeSeededHouse_85 (by decide) (fun hz => absurd (show _ from by rw [h3]) hz) (fun _ => ?_)
      refine r_iload_n dX4_writeSeededHouse_88 rfl ?_
      refine r_if_le (tgt := 107) dX4_writeSeededHouse_89 (by decide) (fun _ => ?_) (fun hz => absurd (show _ from by rw [← nI_0, nI_leI (by omega) (by omega)]; omega) hz)
      refine r_aload_n dX4_writeSeededHouse_107 rfl ?_
      refine r_bipush (v := nI 59) dX4_writeSeededHouse_108 (by decide) ?_
      refine r_virtV (c_X4_put p (nI 59) (nI 59) (bs ++ (sB.getD 2 [])) hP (i2b_small _ (by decide)) (by simp only [List.length_append, List.length_cons, List.length_nil, b2, b18, b19, b20, n2, n18, n19, n20]; omega)) lk_X4_26 mc_X4_put dX4_writeSeededHouse_110 hP.1 (by decide) rfl rfl (Nat.le_of_ble_eq_true rfl) ?_
      try simp only [List.append_assoc]
      refine r_vret rfl dX4_writeSeededHouse_113 ?_
      rw [if_neg e1, if_neg e2, if_neg e3]
      exact am_is.mk
    · skip
      refine r_aload_n dX4_writeSeededHouse_0 rfl ?_
      refine r_ldcS (i := 2) dX4_writeSeededHouse_1 sr_X4_85 (by decide) ?_
      refine r_virtV (c_X4_putWord p 2 (bs) hP (by decide) (by simp only [List.length_append, List.length_cons, List.length_nil, b2, b18, b19, b20, n2, n18, n19, n20]; omega)) lk_X4_32 mc_X4_putWord dX4_writeSeededHouse_3 hP.1 (by decide) rfl rfl (Nat.le_of_ble_eq_true rfl) ?_
      try simp only [List.append_assoc]
      refine r_aload_n dX4_writeSeededHouse_6 rfl ?_
      refine r_iconst (v := nI 4) dX4_writeSeededHouse_7 (by decide) ?_
      refine r_virtE (c_nextP d p 4 (x) (bs ++ (sB.getD 2 [])) hD hd1 hd2 (by omega) (by omega)) lk_X4_87 mc_X1_next dX4_writeSeededHouse_8 hD (by decide) rfl rfl (Nat.le_of_ble_eq_true rfl) ?_
      refine r_istore dX4_writeSeededHouse_11 (by decide) ?_
      refine r_iload dX4_writeSeededHouse_13 rfl ?_
      refine r_iconst (v := nI 1) dX4_writeSeededHouse_15 (by decide) ?_
      refine r_icmp_ne (tgt := 39) dX4_writeSeededHouse_16 (by decide) (fun _ => ?_) (fun hz => absurd hz (show ¬ _ from by rw [nI_eq (by omega) (by omega)]; exact e1))
      refine r_iload dX4_writeSeededHouse_39 rfl ?_
      refine r_iconst (v := nI 2) dX4_writeSeededHouse_41 (by decide) ?_
      refine r_icmp_ne (tgt := 82) dX4_writeSeededHouse_42 (by decide) (fun _ => ?_) (fun hz => absurd hz (show ¬ _ from by rw [nI_eq (by omega) (by omega)]; exact h2))
      refine r_iload dX4_writeSeededHouse_82 rfl ?_
      refine r_iconst (v := nI 3) dX4_writeSeededHouse_84 (by decide) ?_
      refine r_icmp_ne (tgt := 107) dX4_writeSeededHouse_85 (by decide) (fun _ => ?_) (fun hz => absurd hz (show ¬ _ from by rw [nI_eq (by omega) (by omega)]; exact h3))
      refine r_aload_n dX4_writeSeededHouse_107 rfl ?_
      refine r_bipush (v := nI 59) dX4_writeSeededHouse_108 (by decide) ?_
      refine r_virtV (c_X4_put p (nI 59) (nI 59) (bs ++ (sB.getD 2 [])) hP (i2b_small _ (by decide)) (by simp only [List.length_append, List.length_cons, List.length_nil, b2, b18, b19, b20, n2, n18, n19, n20]; omega)) lk_X4_26 mc_X4_put dX4_writeSeededHouse_110 hP.1 (by decide) rfl rfl (Nat.le_of_ble_eq_true rfl) ?_
      try simp only [List.append_assoc]
      refine r_vret rfl dX4_writeSeededHouse_113 ?_
      rw [if_neg e1, if_neg e2, if_neg e3]
      exact am_is.mk


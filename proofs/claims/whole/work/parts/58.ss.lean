/-! A STREET AS A RECORD, written into memory -/
abbrev SS : Type := Nat × Int32 × Int32 × Int32 × Nat × Nat × (Nat → Int32) × (Nat → Int32) × (Nat → Int32) × (Nat → Int32) × (Nat → Int32) × (Nat → Int32) × (Nat → Int32)
def sRow (q : SS) (R : Nat → Int32) : Nat → Int32 := match q with
  | (ho, mo, un, ri, cd, tl, _) => fun j => if j = 0 then nI ho else if j = 1 then mo else if j = 2 then un else if j = 3 then ri else if j = 6 then nI cd else if j = 10 then nI tl else R j
def sI (s : Nat) (q : SS) (I : mI) : mI := match q with
  | (ho, mo, un, ri, cd, tl, lo, co, cf, ct, tx, tf, tt) => fun a => if a = s then sRow (ho, mo, un, ri, cd, tl, lo, co, cf, ct, tx, tf, tt) (I s) else if a = s + 1 then lo else if a = s + 2 then co else if a = s + 3 then cf else if a = s + 4 then ct else if a = s + 5 then tx else if a = s + 6 then tf else if a = s + 7 then tt else I a
section
variable {ho cd tl : Nat} {mo un ri : Int32} {lo co cf ct tx tf tt : Nat → Int32} 
theorem sI_ho (s : Nat) (I : mI) : sI s (ho, mo, un, ri, cd, tl, lo, co, cf, ct, tx, tf, tt) I s 0 = nI ho := by simp [sI, sRow]
theorem sI_pho (s : Nat) (I : mI) (x : Nat) : va_up (sI s (ho, mo, un, ri, cd, tl, lo, co, cf, ct, tx, tf, tt) I) s (va_up (sI s (ho, mo, un, ri, cd, tl, lo, co, cf, ct, tx, tf, tt) I s) 0 (nI x)) = sI s (x, mo, un, ri, cd, tl, lo, co, cf, ct, tx, tf, tt) I := by
  funext a
  by_cases h : a = s
  · subst h
    rw [am_up_s]
    funext j
    by_cases hj : j = 0
    · subst hj; rw [am_up_s]; simp [sI, sRow]
    · rw [am_up_n _ _ hj]; simp [sI, sRow, hj]
  · rw [am_up_n _ _ h]; simp [sI, h]
theorem sI_mo (s : Nat) (I : mI) : sI s (ho, mo, un, ri, cd, tl, lo, co, cf, ct, tx, tf, tt) I s 1 = mo := by simp [sI, sRow]
theorem sI_pmo (s : Nat) (I : mI) (x : Int32) : va_up (sI s (ho, mo, un, ri, cd, tl, lo, co, cf, ct, tx, tf, tt) I) s (va_up (sI s (ho, mo, un, ri, cd, tl, lo, co, cf, ct, tx, tf, tt) I s) 1 (x)) = sI s (ho, x, un, ri, cd, tl, lo, co, cf, ct, tx, tf, tt) I := by
  funext a
  by_cases h : a = s
  · subst h
    rw [am_up_s]
    funext j
    by_cases hj : j = 1
    · subst hj; rw [am_up_s]; simp [sI, sRow]
    · rw [am_up_n _ _ hj]; simp [sI, sRow, hj]
  · rw [am_up_n _ _ h]; simp [sI, h]
theorem sI_un (s : Nat) (I : mI) : sI s (ho, mo, un, ri, cd, tl, lo, co, cf, ct, tx, tf, tt) I s 2 = un := by simp [sI, sRow]
theorem sI_pun (s : Nat) (I : mI) (x : Int32) : va_up (sI s (ho, mo, un, ri, cd, tl, lo, co, cf, ct, tx, tf, tt) I) s (va_up (sI s (ho, mo, un, ri, cd, tl, lo, co, cf, ct, tx, tf, tt) I s) 2 (x)) = sI s (ho, mo, x, ri, cd, tl, lo, co, cf, ct, tx, tf, tt) I := by
  funext a
  by_cases h : a = s
  · subst h
    rw [am_up_s]
    funext j
    by_cases hj : j = 2
    · subst hj; rw [am_up_s]; simp [sI, sRow]
    · rw [am_up_n _ _ hj]; simp [sI, sRow, hj]
  · rw [am_up_n _ _ h]; simp [sI, h]
theorem sI_ri (s : Nat) (I : mI) : sI s (ho, mo, un, ri, cd, tl, lo, co, cf, ct, tx, tf, tt) I s 3 = ri := by simp [sI, sRow]
theorem sI_pri (s : Nat) (I : mI) (x : Int32) : va_up (sI s (ho, mo, un, ri, cd, tl, lo, co, cf, ct, tx, tf, tt) I) s (va_up (sI s (ho, mo, un, ri, cd, tl, lo, co, cf, ct, tx, tf, tt) I s) 3 (x)) = sI s (ho, mo, un, x, cd, tl, lo, co, cf, ct, tx, tf, tt) I := by
  funext a
  by_cases h : a = s
  · subst h
    rw [am_up_s]
    funext j
    by_cases hj : j = 3
    · subst hj; rw [am_up_s]; simp [sI, sRow]
    · rw [am_up_n _ _ hj]; simp [sI, sRow, hj]
  · rw [am_up_n _ _ h]; simp [sI, h]
theorem sI_cd (s : Nat) (I : mI) : sI s (ho, mo, un, ri, cd, tl, lo, co, cf, ct, tx, tf, tt) I s 6 = nI cd := by simp [sI, sRow]
theorem sI_pcd (s : Nat) (I : mI) (x : Nat) : va_up (sI s (ho, mo, un, ri, cd, tl, lo, co, cf, ct, tx, tf, tt) I) s (va_up (sI s (ho, mo, un, ri, cd, tl, lo, co, cf, ct, tx, tf, tt) I s) 6 (nI x)) = sI s (ho, mo, un, ri, x, tl, lo, co, cf, ct, tx, tf, tt) I := by
  funext a
  by_cases h : a = s
  · subst h
    rw [am_up_s]
    funext j
    by_cases hj : j = 6
    · subst hj; rw [am_up_s]; simp [sI, sRow]
    · rw [am_up_n _ _ hj]; simp [sI, sRow, hj]
  · rw [am_up_n _ _ h]; simp [sI, h]
theorem sI_tl (s : Nat) (I : mI) : sI s (ho, mo, un, ri, cd, tl, lo, co, cf, ct, tx, tf, tt) I s 10 = nI tl := by simp [sI, sRow]
theorem sI_ptl (s : Nat) (I : mI) (x : Nat) : va_up (sI s (ho, mo, un, ri, cd, tl, lo, co, cf, ct, tx, tf, tt) I) s (va_up (sI s (ho, mo, un, ri, cd, tl, lo, co, cf, ct, tx, tf, tt) I s) 10 (nI x)) = sI s (ho, mo, un, ri, cd, x, lo, co, cf, ct, tx, tf, tt) I := by
  funext a
  by_cases h : a = s
  · subst h
    rw [am_up_s]
    funext j
    by_cases hj : j = 10
    · subst hj; rw [am_up_s]; simp [sI, sRow]
    · rw [am_up_n _ _ hj]; simp [sI, sRow, hj]
  · rw [am_up_n _ _ h]; simp [sI, h]
theorem sI_alo (s : Nat) (I : mI) : sI s (ho, mo, un, ri, cd, tl, lo, co, cf, ct, tx, tf, tt) I (s + 1) = lo := by simp [sI]
theorem sI_wlo (s : Nat) (I : mI) (R : Nat → Int32) : va_up (sI s (ho, mo, un, ri, cd, tl, lo, co, cf, ct, tx, tf, tt) I) (s + 1) R = sI s (ho, mo, un, ri, cd, tl, R, co, cf, ct, tx, tf, tt) I := by
  funext a
  by_cases h : a = s + 1
  · subst h; rw [am_up_s]; simp [sI]
  · rw [am_up_n _ _ h]; simp [sI, sRow, h]
theorem sI_aco (s : Nat) (I : mI) : sI s (ho, mo, un, ri, cd, tl, lo, co, cf, ct, tx, tf, tt) I (s + 2) = co := by simp [sI]
theorem sI_wco (s : Nat) (I : mI) (R : Nat → Int32) : va_up (sI s (ho, mo, un, ri, cd, tl, lo, co, cf, ct, tx, tf, tt) I) (s + 2) R = sI s (ho, mo, un, ri, cd, tl, lo, R, cf, ct, tx, tf, tt) I := by
  funext a
  by_cases h : a = s + 2
  · subst h; rw [am_up_s]; simp [sI]
  · rw [am_up_n _ _ h]; simp [sI, sRow, h]
theorem sI_acf (s : Nat) (I : mI) : sI s (ho, mo, un, ri, cd, tl, lo, co, cf, ct, tx, tf, tt) I (s + 3) = cf := by simp [sI]
theorem sI_wcf (s : Nat) (I : mI) (R : Nat → Int32) : va_up (sI s (ho, mo, un, ri, cd, tl, lo, co, cf, ct, tx, tf, tt) I) (s + 3) R = sI s (ho, mo, un, ri, cd, tl, lo, co, R, ct, tx, tf, tt) I := by
  funext a
  by_cases h : a = s + 3
  · subst h; rw [am_up_s]; simp [sI]
  · rw [am_up_n _ _ h]; simp [sI, sRow, h]
theorem sI_act (s : Nat) (I : mI) : sI s (ho, mo, un, ri, cd, tl, lo, co, cf, ct, tx, tf, tt) I (s + 4) = ct := by simp [sI]
theorem sI_wct (s : Nat) (I : mI) (R : Nat → Int32) : va_up (sI s (ho, mo, un, ri, cd, tl, lo, co, cf, ct, tx, tf, tt) I) (s + 4) R = sI s (ho, mo, un, ri, cd, tl, lo, co, cf, R, tx, tf, tt) I := by
  funext a
  by_cases h : a = s + 4
  · subst h; rw [am_up_s]; simp [sI]
  · rw [am_up_n _ _ h]; simp [sI, sRow, h]
theorem sI_atx (s : Nat) (I : mI) : sI s (ho, mo, un, ri, cd, tl, lo, co, cf, ct, tx, tf, tt) I (s + 5) = tx := by simp [sI]
theorem sI_wtx (s : Nat) (I : mI) (R : Nat → Int32) : va_up (sI s (ho, mo, un, ri, cd, tl, lo, co, cf, ct, tx, tf, tt) I) (s + 5) R = sI s (ho, mo, un, ri, cd, tl, lo, co, cf, ct, R, tf, tt) I := by
  funext a
  by_cases h : a = s + 5
  · subst h; rw [am_up_s]; simp [sI]
  · rw [am_up_n _ _ h]; simp [sI, sRow, h]
theorem sI_atf (s : Nat) (I : mI) : sI s (ho, mo, un, ri, cd, tl, lo, co, cf, ct, tx, tf, tt) I (s + 6) = tf := by simp [sI]
theorem sI_wtf (s : Nat) (I : mI) (R : Nat → Int32) : va_up (sI s (ho, mo, un, ri, cd, tl, lo, co, cf, ct, tx, tf, tt) I) (s + 6) R = sI s (ho, mo, un, ri, cd, tl, lo, co, cf, ct, tx, R, tt) I := by
  funext a
  by_cases h : a = s + 6
  · subst h; rw [am_up_s]; simp [sI]
  · rw [am_up_n _ _ h]; simp [sI, sRow, h]
theorem sI_att (s : Nat) (I : mI) : sI s (ho, mo, un, ri, cd, tl, lo, co, cf, ct, tx, tf, tt) I (s + 7) = tt := by simp [sI]
theorem sI_wtt (s : Nat) (I : mI) (R : Nat → Int32) : va_up (sI s (ho, mo, un, ri, cd, tl, lo, co, cf, ct, tx, tf, tt) I) (s + 7) R = sI s (ho, mo, un, ri, cd, tl, lo, co, cf, ct, tx, tf, R) I := by
  funext a
  by_cases h : a = s + 7
  · subst h; rw [am_up_s]; simp [sI]
  · rw [am_up_n _ _ h]; simp [sI, sRow, h]
end
theorem sI_ne {s a : Nat} (q : SS) (I : mI) (h : a < s ∨ s + 7 < a) : sI s q I a = I a := by
  obtain ⟨ho, mo, un, ri, cd, tl, lo, co, cf, ct, tx, tf, tt⟩ := q
  unfold sI
  dsimp only
  rw [if_neg (by omega), if_neg (by omega), if_neg (by omega), if_neg (by omega), if_neg (by omega), if_neg (by omega), if_neg (by omega), if_neg (by omega)]
def SS.clear (q : SS) : SS := match q with
  | (ho, mo, un, ri, cd, tl, lo, co, cf, ct, tx, tf, tt) => (0, nI 9, nI 0, nI 0, 0, 0, lo, co, cf, ct, tx, tf, tt)
def SS.house (q : SS) : SS := match q with
  | (ho, mo, un, ri, cd, tl, lo, co, cf, ct, tx, tf, tt) => if ho < 8 then (ho + 1, mo, un, ri, cd, tl, va_up lo ho (nI 0), co, va_up cf ho (nI cd), va_up ct ho (nI cd), tx, va_up tf ho (nI tl), va_up tt ho (nI tl)) else (ho, mo, un, ri, cd, tl, lo, co, cf, ct, tx, tf, tt)
def SS.begin (q : SS) : SS := match q with
  | (ho, mo, un, ri, cd, tl, lo, co, cf, ct, tx, tf, tt) => if ho = 0 then (ho, mo, un, ri, cd, tl, lo, co, cf, ct, tx, tf, tt) else (ho, mo, un, ri ||| (nI 1 <<< (nI (ho - 1) &&& 31)), (cf (ho - 1)).toNatClampNeg, tl, va_up lo (ho - 1) (nI 0), co, cf, va_up ct (ho - 1) (cf (ho - 1)), tx, tf, tt)
def SS.code (q : SS) (c : Int32) : SS := match q with
  | (ho, mo, un, ri, cd, tl, lo, co, cf, ct, tx, tf, tt) => if ho = 0 ∨ 520 ≤ cd then (ho, mo, un, ri, cd, tl, lo, co, cf, ct, tx, tf, tt) else (ho, mo, un, ri, cd + 1, tl, if nI 10000 ≤ c ∧ c < nI 20000 then va_up lo (ho - 1) (lo (ho - 1) ||| (nI 1 <<< ((c - nI 10000) &&& 31))) else lo, va_up co cd c, cf, va_up ct (ho - 1) (nI (cd + 1)), tx, tf, tt)
def wdl (x : Int32) : Bool := (!decide (x < nI 97) && decide (x ≤ nI 122)) || (!decide (x < nI 48) && !decide (nI 57 < x))
def SS.token (q : SS) (X : Nat → Int32) (b e : Nat) : SS := match q with
  | (ho, mo, un, ri, cd, tl, lo, co, cf, ct, tx, tf, tt) => if ho = 0 ∨ e ≤ b ∨ 1000 ≤ tl + e - b then (ho, mo, un, ri, cd, tl, lo, co, cf, ct, tx, tf, tt) else if (!decide (nI tl = tf (ho - 1)) && wdl (X b) && wdl (tx (tl - 1))) = true then (ho, mo, un, ri, cd, tl + 1 + (e - b), lo, co, cf, ct, va_cpy X (va_up tx tl (nI 32)) b (tl + 1) (e - b), tf, va_up tt (ho - 1) (nI (tl + 1 + (e - b)))) else (ho, mo, un, ri, cd, tl + (e - b), lo, co, cf, ct, va_cpy X tx b tl (e - b), tf, va_up tt (ho - 1) (nI (tl + (e - b))))
theorem dX7_clear_0 : decode cX7_clear 0 = .ok (.aload_n 0, 1) := by decide +kernel
theorem dX7_clear_1 : decode cX7_clear 1 = .ok (.iconst 0, 1) := by decide +kernel
theorem dX7_clear_2 : decode cX7_clear 2 = .ok (.putfield 9, 3) := by decide +kernel
theorem dX7_clear_5 : decode cX7_clear 5 = .ok (.aload_n 0, 1) := by decide +kernel
theorem dX7_clear_6 : decode cX7_clear 6 = .ok (.bipush 9, 2) := by decide +kernel
theorem dX7_clear_8 : decode cX7_clear 8 = .ok (.putfield 15, 3) := by decide +kernel
theorem dX7_clear_11 : decode cX7_clear 11 = .ok (.aload_n 0, 1) := by decide +kernel
theorem dX7_clear_12 : decode cX7_clear 12 = .ok (.iconst 0, 1) := by decide +kernel
theorem dX7_clear_13 : decode cX7_clear 13 = .ok (.putfield 18, 3) := by decide +kernel
theorem dX7_clear_16 : decode cX7_clear 16 = .ok (.aload_n 0, 1) := by decide +kernel
theorem dX7_clear_17 : decode cX7_clear 17 = .ok (.iconst 0, 1) := by decide +kernel
theorem dX7_clear_18 : decode cX7_clear 18 = .ok (.putfield 22, 3) := by decide +kernel
theorem dX7_clear_21 : decode cX7_clear 21 = .ok (.aload_n 0, 1) := by decide +kernel
theorem dX7_clear_22 : decode cX7_clear 22 = .ok (.iconst 0, 1) := by decide +kernel
theorem dX7_clear_23 : decode cX7_clear 23 = .ok (.putfield 32, 3) := by decide +kernel
theorem dX7_clear_26 : decode cX7_clear 26 = .ok (.aload_n 0, 1) := by decide +kernel
theorem dX7_clear_27 : decode cX7_clear 27 = .ok (.iconst 0, 1) := by decide +kernel
theorem dX7_clear_28 : decode cX7_clear 28 = .ok (.putfield 45, 3) := by decide +kernel
theorem dX7_clear_31 : decode cX7_clear 31 = .ok (.return_, 1) := by decide +kernel
set_option maxHeartbeats 4000000 in
set_option maxRecDepth 100000 in
theorem c_X7_clear (s : Nat) (ho cd tl : Nat) (mo un ri : Int32) (lo co cf ct tx tf tt : Nat → Int32) {n : Nat} {kd : mK} {I : mI} {J : mJ} {P : mP} (hS : kS kd P s) : Ct yX7_clear cX7_clear 1 none 1 0 0 [.ref s] n kd (sI s (ho, mo, un, ri, cd, tl, lo, co, cf, ct, tx, tf, tt) I) J P (am_is none n kd (sI s (SS.clear (ho, mo, un, ri, cd, tl, lo, co, cf, ct, tx, tf, tt)) I) J P) := by
  obtain ⟨s0, s1, s2, s3, s4, s5, s6, s7, s8, s9, p4, p5, p7, p8, p9, p11, p12, p13, p14⟩ := hS
  simp only [SS.clear, SS.house, SS.begin, SS.code]
  refine ct_of 0 (by decide +kernel) (Nat.le_of_ble_eq_true rfl) rfl ?_
  refine r_aload_n dX7_clear_0 rfl ?_
  refine r_iconst (v := nI 0) dX7_clear_1 (by decide) ?_
  refine r_putI dX7_clear_2 fl_X7_9 rfl rfl (s0) ?_
  rw [sI_pho (x := 0)]
  refine r_aload_n dX7_clear_5 rfl ?_
  refine r_bipush (v := nI 9) dX7_clear_6 (by decide) ?_
  refine r_putI dX7_clear_8 fl_X7_15 rfl rfl (s0) ?_
  rw [sI_pmo]
  refine r_aload_n dX7_clear_11 rfl ?_
  refine r_iconst (v := nI 0) dX7_clear_12 (by decide) ?_
  refine r_putZ dX7_clear_13 fl_X7_18 rfl rfl (by first | exact Or.inl rfl | exact Or.inr rfl | assumption) (s0) ?_
  rw [sI_pun]
  refine r_aload_n dX7_clear_16 rfl ?_
  refine r_iconst (v := nI 0) dX7_clear_17 (by decide) ?_
  refine r_putI dX7_clear_18 fl_X7_22 rfl rfl (s0) ?_
  rw [sI_pri]
  refine r_aload_n dX7_clear_21 rfl ?_
  refine r_iconst (v := nI 0) dX7_clear_22 (by decide) ?_
  refine r_putI dX7_clear_23 fl_X7_32 rfl rfl (s0) ?_
  rw [sI_pcd (x := 0)]
  refine r_aload_n dX7_clear_26 rfl ?_
  refine r_iconst (v := nI 0) dX7_clear_27 (by decide) ?_
  refine r_putI dX7_clear_28 fl_X7_45 rfl rfl (s0) ?_
  rw [sI_ptl (x := 0)]
  refine r_vret rfl dX7_clear_31 ?_
  exact am_is.mk

theorem dX7_addHouse_0 : decode cX7_addHouse 0 = .ok (.aload_n 0, 1) := by decide +kernel
theorem dX7_addHouse_1 : decode cX7_addHouse 1 = .ok (.getfield 9, 3) := by decide +kernel
theorem dX7_addHouse_4 : decode cX7_addHouse 4 = .ok (.bipush 8, 2) := by decide +kernel
theorem dX7_addHouse_6 : decode cX7_addHouse 6 = .ok (.if_icmp .lt 4, 3) := by decide +kernel
theorem dX7_addHouse_9 : decode cX7_addHouse 9 = .ok (.return_, 1) := by decide +kernel
theorem dX7_addHouse_10 : decode cX7_addHouse 10 = .ok (.aload_n 0, 1) := by decide +kernel
theorem dX7_addHouse_11 : decode cX7_addHouse 11 = .ok (.getfield 25, 3) := by decide +kernel
theorem dX7_addHouse_14 : decode cX7_addHouse 14 = .ok (.aload_n 0, 1) := by decide +kernel
theorem dX7_addHouse_15 : decode cX7_addHouse 15 = .ok (.getfield 9, 3) := by decide +kernel
theorem dX7_addHouse_18 : decode cX7_addHouse 18 = .ok (.iconst 0, 1) := by decide +kernel
theorem dX7_addHouse_19 : decode cX7_addHouse 19 = .ok (.iastore, 1) := by decide +kernel
theorem dX7_addHouse_20 : decode cX7_addHouse 20 = .ok (.aload_n 0, 1) := by decide +kernel
theorem dX7_addHouse_21 : decode cX7_addHouse 21 = .ok (.getfield 35, 3) := by decide +kernel
theorem dX7_addHouse_24 : decode cX7_addHouse 24 = .ok (.aload_n 0, 1) := by decide +kernel
theorem dX7_addHouse_25 : decode cX7_addHouse 25 = .ok (.getfield 9, 3) := by decide +kernel
theorem dX7_addHouse_28 : decode cX7_addHouse 28 = .ok (.aload_n 0, 1) := by decide +kernel
theorem dX7_addHouse_29 : decode cX7_addHouse 29 = .ok (.getfield 32, 3) := by decide +kernel
theorem dX7_addHouse_32 : decode cX7_addHouse 32 = .ok (.iastore, 1) := by decide +kernel
theorem dX7_addHouse_33 : decode cX7_addHouse 33 = .ok (.aload_n 0, 1) := by decide +kernel
theorem dX7_addHouse_34 : decode cX7_addHouse 34 = .ok (.getfield 38, 3) := by decide +kernel
theorem dX7_addHouse_37 : decode cX7_addHouse 37 = .ok (.aload_n 0, 1) := by decide +kernel
theorem dX7_addHouse_38 : decode cX7_addHouse 38 = .ok (.getfield 9, 3) := by decide +kernel
theorem dX7_addHouse_41 : decode cX7_addHouse 41 = .ok (.aload_n 0, 1) := by decide +kernel
theorem dX7_addHouse_42 : decode cX7_addHouse 42 = .ok (.getfield 32, 3) := by decide +kernel
theorem dX7_addHouse_45 : decode cX7_addHouse 45 = .ok (.iastore, 1) := by decide +kernel
theorem dX7_addHouse_46 : decode cX7_addHouse 46 = .ok (.aload_n 0, 1) := by decide +kernel
theorem dX7_addHouse_47 : decode cX7_addHouse 47 = .ok (.getfield 48, 3) := by decide +kernel
theorem dX7_addHouse_50 : decode cX7_addHouse 50 = .ok (.aload_n 0, 1) := by decide +kernel
theorem dX7_addHouse_51 : decode cX7_addHouse 51 = .ok (.getfield 9, 3) := by decide +kernel
theorem dX7_addHouse_54 : decode cX7_addHouse 54 = .ok (.aload_n 0, 1) := by decide +kernel
theorem dX7_addHouse_55 : decode cX7_addHouse 55 = .ok (.getfield 45, 3) := by decide +kernel
theorem dX7_addHouse_58 : decode cX7_addHouse 58 = .ok (.iastore, 1) := by decide +kernel
theorem dX7_addHouse_59 : decode cX7_addHouse 59 = .ok (.aload_n 0, 1) := by decide +kernel
theorem dX7_addHouse_60 : decode cX7_addHouse 60 = .ok (.getfield 51, 3) := by decide +kernel
theorem dX7_addHouse_63 : decode cX7_addHouse 63 = .ok (.aload_n 0, 1) := by decide +kernel
theorem dX7_addHouse_64 : decode cX7_addHouse 64 = .ok (.getfield 9, 3) := by decide +kernel
theorem dX7_addHouse_67 : decode cX7_addHouse 67 = .ok (.aload_n 0, 1) := by decide +kernel
theorem dX7_addHouse_68 : decode cX7_addHouse 68 = .ok (.getfield 45, 3) := by decide +kernel
theorem dX7_addHouse_71 : decode cX7_addHouse 71 = .ok (.iastore, 1) := by decide +kernel
theorem dX7_addHouse_72 : decode cX7_addHouse 72 = .ok (.aload_n 0, 1) := by decide +kernel
theorem dX7_addHouse_73 : decode cX7_addHouse 73 = .ok (.dup, 1) := by decide +kernel
theorem dX7_addHouse_74 : decode cX7_addHouse 74 = .ok (.getfield 9, 3) := by decide +kernel
theorem dX7_addHouse_77 : decode cX7_addHouse 77 = .ok (.iconst 1, 1) := by decide +kernel
theorem dX7_addHouse_78 : decode cX7_addHouse 78 = .ok (.iadd, 1) := by decide +kernel
theorem dX7_addHouse_79 : decode cX7_addHouse 79 = .ok (.putfield 9, 3) := by decide +kernel
theorem dX7_addHouse_82 : decode cX7_addHouse 82 = .ok (.return_, 1) := by decide +kernel
set_option maxHeartbeats 4000000 in
set_option maxRecDepth 100000 in
theorem c_X7_addHouse (s : Nat) (ho cd tl : Nat) (mo un ri : Int32) (lo co cf ct tx tf tt : Nat → Int32) {n : Nat} {kd : mK} {I : mI} {J : mJ} {P : mP} (hS : kS kd P s) (hh : ho ≤ 8) : Ct yX7_addHouse cX7_addHouse 1 none 1 0 0 [.ref s] n kd (sI s (ho, mo, un, ri, cd, tl, lo, co, cf, ct, tx, tf, tt) I) J P (am_is none n kd (sI s (SS.house (ho, mo, un, ri, cd, tl, lo, co, cf, ct, tx, tf, tt)) I) J P) := by
  obtain ⟨s0, s1, s2, s3, s4, s5, s6, s7, s8, s9, p4, p5, p7, p8, p9, p11, p12, p13, p14⟩ := hS
  simp only [SS.clear, SS.house, SS.begin, SS.code]
  refine ct_of 0 (by decide +kernel) (Nat.le_of_ble_eq_true rfl) rfl ?_
  by_cases h8 : ho < 8
  · rw [if_pos h8]
    refine r_aload_n dX7_addHouse_0 rfl ?_
    refine r_getI dX7_addHouse_1 fl_X7_9 rfl (s0) ?_
    rw [sI_ho]
    refine r_bipush (v := nI 8) dX7_addHouse_4 (by decide) ?_
    refine r_icmp_lt (tgt := 10) dX7_addHouse_6 (by decide) (fun _ => ?_) (fun hz => absurd (show _ from (by rw [nI_ltI (by omega) (by omega)]; omega)) hz)
    refine r_aload_n dX7_addHouse_10 rfl ?_
    refine r_getR dX7_addHouse_11 fl_X7_25 rfl (s0) (p4) ?_
    refine r_aload_n dX7_addHouse_14 rfl ?_
    refine r_getI dX7_addHouse_15 fl_X7_9 rfl (s0) ?_
    rw [sI_ho]
    refine r_iconst (v := nI 0) dX7_addHouse_18 (by decide) ?_
    refine r_iast dX7_addHouse_19 (s1) (nI_in8 8 (by omega) (by decide)) (nI_clamp (by omega)) ?_
    rw [sI_alo, sI_wlo]
    refine r_aload_n dX7_addHouse_20 rfl ?_
    refine r_getR dX7_addHouse_21 fl_X7_35 rfl (s0) (p7) ?_
    refine r_aload_n dX7_addHouse_24 rfl ?_
    refine r_getI dX7_addHouse_25 fl_X7_9 rfl (s0) ?_
    rw [sI_ho]
    refine r_aload_n dX7_addHouse_28 rfl ?_
    refine r_getI dX7_addHouse_29 fl_X7_32 rfl (s0) ?_
    rw [sI_cd]
    refine r_iast dX7_addHouse_32 (s3) (nI_in8 8 (by omega) (by decide)) (nI_clamp (by omega)) ?_
    rw [sI_acf, sI_wcf]
    refine r_aload_n dX7_addHouse_33 rfl ?_
    refine r_getR dX7_addHouse_34 fl_X7_38 rfl (s0) (p8) ?_
    refine r_aload_n dX7_addHouse_37 rfl ?_
    refine r_getI dX7_addHouse_38 fl_X7_9 rfl (s0) ?_
    rw [sI_ho]
    refine r_aload_n dX7_addHouse_41 rfl ?_
    refine r_getI dX7_addHouse_42 fl_X7_32 rfl (s0) ?_
    rw [sI_cd]
    refine r_iast dX7_addHouse_45 (s4) (nI_in8 8 (by omega) (by decide)) (nI_clamp (by omega)) ?_
    rw [sI_act, sI_wct]
    refine r_aload_n dX7_addHouse_46 rfl ?_
    refine r_getR dX7_addHouse_47 fl_X7_48 rfl (s0) (p11) ?_
    refine r_aload_n dX7_addHouse_50 rfl ?_
    refine r_getI dX7_addHouse_51 fl_X7_9 rfl (s0) ?_
    rw [sI_ho]
    refine r_aload_n dX7_addHouse_54 rfl ?_
    refine r_getI dX7_addHouse_55 fl_X7_45 rfl (s0) ?_
    rw [sI_tl]
    refine r_iast dX7_addHouse_58 (s6) (nI_in8 8 (by omega) (by decide)) (nI_clamp (by omega)) ?_
    rw [sI_atf, sI_wtf]
    refine r_aload_n dX7_addHouse_59 rfl ?_
    refine r_getR dX7_addHouse_60 fl_X7_51 rfl (s0) (p12) ?_
    refine r_aload_n dX7_addHouse_63 rfl ?_
    refine r_getI dX7_addHouse_64 fl_X7_9 rfl (s0) ?_
    rw [sI_ho]
    refine r_aload_n dX7_addHouse_67 rfl ?_
    refine r_getI dX7_addHouse_68 fl_X7_45 rfl (s0) ?_
    rw [sI_tl]
    refine r_iast dX7_addHouse_71 (s7) (nI_in8 8 (by omega) (by decide)) (nI_clamp (by omega)) ?_
    rw [sI_att, sI_wtt]
    refine r_aload_n dX7_addHouse_72 rfl ?_
    refine r_dup dX7_addHouse_73 rfl ?_
    refine r_getI dX7_addHouse_74 fl_X7_9 rfl (s0) ?_
    rw [sI_ho]
    refine r_iconst (v := nI 1) dX7_addHouse_77 (by decide) ?_
    refine r_iadd dX7_addHouse_78 ?_
    rw [nI_add]
    refine r_putI dX7_addHouse_79 fl_X7_9 rfl rfl (s0) ?_
    rw [sI_pho]
    refine r_vret rfl dX7_addHouse_82 ?_
    exact am_is.mk
  · rw [if_neg h8]
    refine r_aload_n dX7_addHouse_0 rfl ?_
    refine r_getI dX7_addHouse_1 fl_X7_9 rfl (s0) ?_
    rw [sI_ho]
    refine r_bipush (v := nI 8) dX7_addHouse_4 (by decide) ?_
    refine r_icmp_lt (tgt := 10) dX7_addHouse_6 (by decide) (fun hz => absurd hz (show ¬ _ from (by rw [nI_ltI (by omega) (by omega)]; omega))) (fun _ => ?_)
    refine r_vret rfl dX7_addHouse_9 ?_
    exact am_is.mk

theorem dX7_beginRiddle_0 : decode cX7_beginRiddle 0 = .ok (.aload_n 0, 1) := by decide +kernel
theorem dX7_beginRiddle_1 : decode cX7_beginRiddle 1 = .ok (.getfield 9, 3) := by decide +kernel
theorem dX7_beginRiddle_4 : decode cX7_beginRiddle 4 = .ok (.iconst 1, 1) := by decide +kernel
theorem dX7_beginRiddle_5 : decode cX7_beginRiddle 5 = .ok (.if_icmp .ge 4, 3) := by decide +kernel
theorem dX7_beginRiddle_8 : decode cX7_beginRiddle 8 = .ok (.return_, 1) := by decide +kernel
theorem dX7_beginRiddle_9 : decode cX7_beginRiddle 9 = .ok (.aload_n 0, 1) := by decide +kernel
theorem dX7_beginRiddle_10 : decode cX7_beginRiddle 10 = .ok (.getfield 9, 3) := by decide +kernel
theorem dX7_beginRiddle_13 : decode cX7_beginRiddle 13 = .ok (.iconst 1, 1) := by decide +kernel
theorem dX7_beginRiddle_14 : decode cX7_beginRiddle 14 = .ok (.isub, 1) := by decide +kernel
theorem dX7_beginRiddle_15 : decode cX7_beginRiddle 15 = .ok (.istore_n 1, 1) := by decide +kernel
theorem dX7_beginRiddle_16 : decode cX7_beginRiddle 16 = .ok (.aload_n 0, 1) := by decide +kernel
theorem dX7_beginRiddle_17 : decode cX7_beginRiddle 17 = .ok (.dup, 1) := by decide +kernel
theorem dX7_beginRiddle_18 : decode cX7_beginRiddle 18 = .ok (.getfield 22, 3) := by decide +kernel
theorem dX7_beginRiddle_21 : decode cX7_beginRiddle 21 = .ok (.iconst 1, 1) := by decide +kernel
theorem dX7_beginRiddle_22 : decode cX7_beginRiddle 22 = .ok (.iload_n 1, 1) := by decide +kernel
theorem dX7_beginRiddle_23 : decode cX7_beginRiddle 23 = .ok (.ishl, 1) := by decide +kernel
theorem dX7_beginRiddle_24 : decode cX7_beginRiddle 24 = .ok (.ior, 1) := by decide +kernel
theorem dX7_beginRiddle_25 : decode cX7_beginRiddle 25 = .ok (.putfield 22, 3) := by decide +kernel
theorem dX7_beginRiddle_28 : decode cX7_beginRiddle 28 = .ok (.aload_n 0, 1) := by decide +kernel
theorem dX7_beginRiddle_29 : decode cX7_beginRiddle 29 = .ok (.getfield 25, 3) := by decide +kernel
theorem dX7_beginRiddle_32 : decode cX7_beginRiddle 32 = .ok (.iload_n 1, 1) := by decide +kernel
theorem dX7_beginRiddle_33 : decode cX7_beginRiddle 33 = .ok (.iconst 0, 1) := by decide +kernel
theorem dX7_beginRiddle_34 : decode cX7_beginRiddle 34 = .ok (.iastore, 1) := by decide +kernel
theorem dX7_beginRiddle_35 : decode cX7_beginRiddle 35 = .ok (.aload_n 0, 1) := by decide +kernel
theorem dX7_beginRiddle_36 : decode cX7_beginRiddle 36 = .ok (.aload_n 0, 1) := by decide +kernel
theorem dX7_beginRiddle_37 : decode cX7_beginRiddle 37 = .ok (.getfield 35, 3) := by decide +kernel
theorem dX7_beginRiddle_40 : decode cX7_beginRiddle 40 = .ok (.iload_n 1, 1) := by decide +kernel
theorem dX7_beginRiddle_41 : decode cX7_beginRiddle 41 = .ok (.iaload, 1) := by decide +kernel
theorem dX7_beginRiddle_42 : decode cX7_beginRiddle 42 = .ok (.putfield 32, 3) := by decide +kernel
theorem dX7_beginRiddle_45 : decode cX7_beginRiddle 45 = .ok (.aload_n 0, 1) := by decide +kernel
theorem dX7_beginRiddle_46 : decode cX7_beginRiddle 46 = .ok (.getfield 38, 3) := by decide +kernel
theorem dX7_beginRiddle_49 : decode cX7_beginRiddle 49 = .ok (.iload_n 1, 1) := by decide +kernel
theorem dX7_beginRiddle_50 : decode cX7_beginRiddle 50 = .ok (.aload_n 0, 1) := by decide +kernel
theorem dX7_beginRiddle_51 : decode cX7_beginRiddle 51 = .ok (.getfield 32, 3) := by decide +kernel
theorem dX7_beginRiddle_54 : decode cX7_beginRiddle 54 = .ok (.iastore, 1) := by decide +kernel
theorem dX7_beginRiddle_55 : decode cX7_beginRiddle 55 = .ok (.return_, 1) := by decide +kernel
set_option maxHeartbeats 4000000 in
set_option maxRecDepth 100000 in
theorem c_X7_beginRiddle (s : Nat) (ho cd tl : Nat) (mo un ri : Int32) (lo co cf ct tx tf tt : Nat → Int32) (h c : Nat) {n : Nat} {kd : mK} {I : mI} {J : mJ} {P : mP} (hS : kS kd P s) (hh : ho = h + 1) (h8 : h < 8) (hc : cf h = nI c) (hc2 : c < 2 ^ 31) : Ct yX7_beginRiddle cX7_beginRiddle 2 none 1 0 0 [.ref s] n kd (sI s (ho, mo, un, ri, cd, tl, lo, co, cf, ct, tx, tf, tt) I) J P (am_is none n kd (sI s (SS.begin (ho, mo, un, ri, cd, tl, lo, co, cf, ct, tx, tf, tt)) I) J P) := by
  obtain ⟨s0, s1, s2, s3, s4, s5, s6, s7, s8, s9, p4, p5, p7, p8, p9, p11, p12, p13, p14⟩ := hS
  simp only [SS.clear, SS.house, SS.begin, SS.code]
  refine ct_of 1 (by decide +kernel) (Nat.le_of_ble_eq_true rfl) rfl ?_
  rw [if_neg (by omega), hh, Nat.add_sub_cancel, hc, nI_clamp hc2]
  refine r_aload_n dX7_beginRiddle_0 rfl ?_
  refine r_getI dX7_beginRiddle_1 fl_X7_9 rfl (s0) ?_
  rw [sI_ho]
  refine r_iconst (v := nI 1) dX7_beginRiddle_4 (by decide) ?_
  refine r_icmp_ge (tgt := 9) dX7_beginRiddle_5 (by decide) (fun _ => ?_) (fun hz => absurd (show _ from (by rw [nI_leI (by omega) (by omega)]; omega)) hz)
  refine r_aload_n dX7_beginRiddle_9 rfl ?_
  refine r_getI dX7_beginRiddle_10 fl_X7_9 rfl (s0) ?_
  rw [sI_ho]
  refine r_iconst (v := nI 1) dX7_beginRiddle_13 (by decide) ?_
  refine r_isub dX7_beginRiddle_14 ?_
  rw [nI_s1]
  refine r_istore_n dX7_beginRiddle_15 (by decide) ?_
  refine r_aload_n dX7_beginRiddle_16 rfl ?_
  refine r_dup dX7_beginRiddle_17 rfl ?_
  refine r_getI dX7_beginRiddle_18 fl_X7_22 rfl (s0) ?_
  rw [sI_ri]
  refine r_iconst (v := nI 1) dX7_beginRiddle_21 (by decide) ?_
  refine r_iload_n dX7_beginRiddle_22 rfl ?_
  refine r_ishl dX7_beginRiddle_23 ?_
  refine r_ior dX7_beginRiddle_24 ?_
  refine r_putI dX7_beginRiddle_25 fl_X7_22 rfl rfl (s0) ?_
  rw [sI_pri]
  refine r_aload_n dX7_beginRiddle_28 rfl ?_
  refine r_getR dX7_beginRiddle_29 fl_X7_25 rfl (s0) (p4) ?_
  refine r_iload_n dX7_beginRiddle_32 rfl ?_
  refine r_iconst (v := nI 0) dX7_beginRiddle_33 (by decide) ?_
  refine r_iast dX7_beginRiddle_34 (s1) (nI_in8 8 (by omega) (by decide)) (nI_clamp (by omega)) ?_
  rw [sI_alo, sI_wlo]
  refine r_aload_n dX7_beginRiddle_35 rfl ?_
  refine r_aload_n dX7_beginRiddle_36 rfl ?_
  refine r_getR dX7_beginRiddle_37 fl_X7_35 rfl (s0) (p7) ?_
  refine r_iload_n dX7_beginRiddle_40 rfl ?_
  refine r_iald dX7_beginRiddle_41 s3 (nI_in8 8 h8 (by decide)) (nI_clamp (by omega)) ?_
  rw [sI_acf, hc]
  refine r_putI dX7_beginRiddle_42 fl_X7_32 rfl rfl (s0) ?_
  rw [sI_pcd]
  refine r_aload_n dX7_beginRiddle_45 rfl ?_
  refine r_getR dX7_beginRiddle_46 fl_X7_38 rfl (s0) (p8) ?_
  refine r_iload_n dX7_beginRiddle_49 rfl ?_
  refine r_aload_n dX7_beginRiddle_50 rfl ?_
  refine r_getI dX7_beginRiddle_51 fl_X7_32 rfl (s0) ?_
  rw [sI_cd]
  refine r_iast dX7_beginRiddle_54 (s4) (nI_in8 8 (by omega) (by decide)) (nI_clamp (by omega)) ?_
  rw [sI_act, sI_wct]
  refine r_vret rfl dX7_beginRiddle_55 ?_
  exact am_is.mk

theorem dX7_addCode_0 : decode cX7_addCode 0 = .ok (.aload_n 0, 1) := by decide +kernel
theorem dX7_addCode_1 : decode cX7_addCode 1 = .ok (.getfield 9, 3) := by decide +kernel
theorem dX7_addCode_4 : decode cX7_addCode 4 = .ok (.iconst 1, 1) := by decide +kernel
theorem dX7_addCode_5 : decode cX7_addCode 5 = .ok (.if_icmp .lt 15, 3) := by decide +kernel
theorem dX7_addCode_8 : decode cX7_addCode 8 = .ok (.aload_n 0, 1) := by decide +kernel
theorem dX7_addCode_9 : decode cX7_addCode 9 = .ok (.getfield 32, 3) := by decide +kernel
theorem dX7_addCode_12 : decode cX7_addCode 12 = .ok (.aload_n 0, 1) := by decide +kernel
theorem dX7_addCode_13 : decode cX7_addCode 13 = .ok (.getfield 29, 3) := by decide +kernel
theorem dX7_addCode_16 : decode cX7_addCode 16 = .ok (.arraylength, 1) := by decide +kernel
theorem dX7_addCode_17 : decode cX7_addCode 17 = .ok (.if_icmp .lt 4, 3) := by decide +kernel
theorem dX7_addCode_20 : decode cX7_addCode 20 = .ok (.return_, 1) := by decide +kernel
theorem dX7_addCode_21 : decode cX7_addCode 21 = .ok (.aload_n 0, 1) := by decide +kernel
theorem dX7_addCode_22 : decode cX7_addCode 22 = .ok (.getfield 29, 3) := by decide +kernel
theorem dX7_addCode_25 : decode cX7_addCode 25 = .ok (.aload_n 0, 1) := by decide +kernel
theorem dX7_addCode_26 : decode cX7_addCode 26 = .ok (.getfield 32, 3) := by decide +kernel
theorem dX7_addCode_29 : decode cX7_addCode 29 = .ok (.iload_n 1, 1) := by decide +kernel
theorem dX7_addCode_30 : decode cX7_addCode 30 = .ok (.iastore, 1) := by decide +kernel
theorem dX7_addCode_31 : decode cX7_addCode 31 = .ok (.aload_n 0, 1) := by decide +kernel
theorem dX7_addCode_32 : decode cX7_addCode 32 = .ok (.dup, 1) := by decide +kernel
theorem dX7_addCode_33 : decode cX7_addCode 33 = .ok (.getfield 32, 3) := by decide +kernel
theorem dX7_addCode_36 : decode cX7_addCode 36 = .ok (.iconst 1, 1) := by decide +kernel
theorem dX7_addCode_37 : decode cX7_addCode 37 = .ok (.iadd, 1) := by decide +kernel
theorem dX7_addCode_38 : decode cX7_addCode 38 = .ok (.putfield 32, 3) := by decide +kernel
theorem dX7_addCode_41 : decode cX7_addCode 41 = .ok (.aload_n 0, 1) := by decide +kernel
theorem dX7_addCode_42 : decode cX7_addCode 42 = .ok (.getfield 38, 3) := by decide +kernel
theorem dX7_addCode_45 : decode cX7_addCode 45 = .ok (.aload_n 0, 1) := by decide +kernel
theorem dX7_addCode_46 : decode cX7_addCode 46 = .ok (.getfield 9, 3) := by decide +kernel
theorem dX7_addCode_49 : decode cX7_addCode 49 = .ok (.iconst 1, 1) := by decide +kernel
theorem dX7_addCode_50 : decode cX7_addCode 50 = .ok (.isub, 1) := by decide +kernel
theorem dX7_addCode_51 : decode cX7_addCode 51 = .ok (.aload_n 0, 1) := by decide +kernel
theorem dX7_addCode_52 : decode cX7_addCode 52 = .ok (.getfield 32, 3) := by decide +kernel
theorem dX7_addCode_55 : decode cX7_addCode 55 = .ok (.iastore, 1) := by decide +kernel
theorem dX7_addCode_56 : decode cX7_addCode 56 = .ok (.iload_n 1, 1) := by decide +kernel
theorem dX7_addCode_57 : decode cX7_addCode 57 = .ok (.sipush 10000, 3) := by decide +kernel
theorem dX7_addCode_60 : decode cX7_addCode 60 = .ok (.if_icmp .lt 31, 3) := by decide +kernel
theorem dX7_addCode_63 : decode cX7_addCode 63 = .ok (.iload_n 1, 1) := by decide +kernel
theorem dX7_addCode_64 : decode cX7_addCode 64 = .ok (.sipush 20000, 3) := by decide +kernel
theorem dX7_addCode_67 : decode cX7_addCode 67 = .ok (.if_icmp .ge 24, 3) := by decide +kernel
theorem dX7_addCode_70 : decode cX7_addCode 70 = .ok (.aload_n 0, 1) := by decide +kernel
theorem dX7_addCode_71 : decode cX7_addCode 71 = .ok (.getfield 25, 3) := by decide +kernel
theorem dX7_addCode_74 : decode cX7_addCode 74 = .ok (.aload_n 0, 1) := by decide +kernel
theorem dX7_addCode_75 : decode cX7_addCode 75 = .ok (.getfield 9, 3) := by decide +kernel
theorem dX7_addCode_78 : decode cX7_addCode 78 = .ok (.iconst 1, 1) := by decide +kernel
theorem dX7_addCode_79 : decode cX7_addCode 79 = .ok (.isub, 1) := by decide +kernel
theorem dX7_addCode_80 : decode cX7_addCode 80 = .ok (.dup2, 1) := by decide +kernel
theorem dX7_addCode_81 : decode cX7_addCode 81 = .ok (.iaload, 1) := by decide +kernel
theorem dX7_addCode_82 : decode cX7_addCode 82 = .ok (.iconst 1, 1) := by decide +kernel
theorem dX7_addCode_83 : decode cX7_addCode 83 = .ok (.iload_n 1, 1) := by decide +kernel
theorem dX7_addCode_84 : decode cX7_addCode 84 = .ok (.sipush 10000, 3) := by decide +kernel
theorem dX7_addCode_87 : decode cX7_addCode 87 = .ok (.isub, 1) := by decide +kernel
theorem dX7_addCode_88 : decode cX7_addCode 88 = .ok (.ishl, 1) := by decide +kernel
theorem dX7_addCode_89 : decode cX7_addCode 89 = .ok (.ior, 1) := by decide +kernel
theorem dX7_addCode_90 : decode cX7_addCode 90 = .ok (.iastore, 1) := by decide +kernel
theorem dX7_addCode_91 : decode cX7_addCode 91 = .ok (.return_, 1) := by decide +kernel
set_option maxHeartbeats 4000000 in
set_option maxRecDepth 100000 in
theorem c_X7_addCode (s : Nat) (ho cd tl : Nat) (mo un ri : Int32) (lo co cf ct tx tf tt : Nat → Int32) (h : Nat) (c : Int32) {n : Nat} {kd : mK} {I : mI} {J : mJ} {P : mP} (hS : kS kd P s) (hh : ho = h + 1) (h8 : h < 8) (hc : cd ≤ 520) : Ct yX7_addCode cX7_addCode 2 none 1 0 0 [.ref s, .int c] n kd (sI s (ho, mo, un, ri, cd, tl, lo, co, cf, ct, tx, tf, tt) I) J P (am_is none n kd (sI s (SS.code (ho, mo, un, ri, cd, tl, lo, co, cf, ct, tx, tf, tt) c) I) J P) := by
  obtain ⟨s0, s1, s2, s3, s4, s5, s6, s7, s8, s9, p4, p5, p7, p8, p9, p11, p12, p13, p14⟩ := hS
  simp only [SS.clear, SS.house, SS.begin, SS.code]
  refine ct_of 0 (by decide +kernel) (Nat.le_of_ble_eq_true rfl) rfl ?_
  by_cases h5 : 520 ≤ cd
  · rw [if_pos (Or.inr h5)]
    refine r_aload_n dX7_addCode_0 rfl ?_
    refine r_getI dX7_addCode_1 fl_X7_9 rfl (s0) ?_
    rw [sI_ho]
    refine r_iconst (v := nI 1) dX7_addCode_4 (by decide) ?_
    refine r_icmp_lt (tgt := 20) dX7_addCode_5 (by decide) (fun hz => absurd hz (show ¬ _ from (by rw [nI_ltI (by omega) (by omega)]; omega))) (fun _ => ?_)
    refine r_aload_n dX7_addCode_8 rfl ?_
    refine r_getI dX7_addCode_9 fl_X7_32 rfl (s0) ?_
    rw [sI_cd]
    refine r_aload_n dX7_addCode_12 rfl ?_
    refine r_getR dX7_addCode_13 fl_X7_29 rfl (s0) (p5) ?_
    refine r_alen dX7_addCode_16 (s2) (by decide) ?_
    refine r_icmp_lt (tgt := 21) dX7_addCode_17 (by decide) (fun hz => absurd hz (show ¬ _ from (by rw [nI_ltI (by omega) (by omega)]; omega))) (fun _ => ?_)
    refine r_vret rfl dX7_addCode_20 ?_
    exact am_is.mk
  · rw [if_neg (by omega), hh, Nat.add_sub_cancel]
    by_cases hl : c < nI 10000
    · rw [if_neg (fun z => absurd hl (Int32.not_lt.mpr z.1))]
      refine r_aload_n dX7_addCode_0 rfl ?_
      refine r_getI dX7_addCode_1 fl_X7_9 rfl (s0) ?_
      rw [sI_ho]
      refine r_iconst (v := nI 1) dX7_addCode_4 (by decide) ?_
      refine r_icmp_lt (tgt := 20) dX7_addCode_5 (by decide) (fun hz => absurd hz (show ¬ _ from (by rw [nI_ltI (by omega) (by omega)]; omega))) (fun _ => ?_)
      refine r_aload_n dX7_addCode_8 rfl ?_
      refine r_getI dX7_addCode_9 fl_X7_32 rfl (s0) ?_
      rw [sI_cd]
      refine r_aload_n dX7_addCode_12 rfl ?_
      refine r_getR dX7_addCode_13 fl_X7_29 rfl (s0) (p5) ?_
      refine r_alen dX7_addCode_16 (s2) (by decide) ?_
      refine r_icmp_lt (tgt := 21) dX7_addCode_17 (by decide) (fun _ => ?_) (fun hz => absurd (show _ from (by rw [nI_ltI (by omega) (by omega)]; omega)) hz)
      refine r_aload_n dX7_addCode_21 rfl ?_
      refine r_getR dX7_addCode_22 fl_X7_29 rfl (s0) (p5) ?_
      refine r_aload_n dX7_addCode_25 rfl ?_
      refine r_getI dX7_addCode_26 fl_X7_32 rfl (s0) ?_
      rw [sI_cd]
      refine r_iload_n dX7_addCode_29 rfl ?_
      refine r_iast dX7_addCode_30 (s2) (nI_in8 520 (by omega) (by decide)) (nI_clamp (by omega)) ?_
      rw [sI_aco, sI_wco]
      refine r_aload_n dX7_addCode_31 rfl ?_
      refine r_dup dX7_addCode_32 rfl ?_
      refine r_getI dX7_addCode_33 fl_X7_32 rfl (s0) ?_
      rw [sI_cd]
      refine r_iconst (v := nI 1) dX7_addCode_36 (by decide) ?_
      refine r_iadd dX7_addCode_37 ?_
      rw [nI_add]
      refine r_putI dX7_addCode_38 fl_X7_32 rfl rfl (s0) ?_
      rw [sI_pcd]
      refine r_aload_n dX7_addCode_41 rfl ?_
      refine r_getR dX7_addCode_42 fl_X7_38 rfl (s0) (p8) ?_
      refine r_aload_n dX7_addCode_45 rfl ?_
      refine r_getI dX7_addCode_46 fl_X7_9 rfl (s0) ?_
      rw [sI_ho]
      refine r_iconst (v := nI 1) dX7_addCode_49 (by decide) ?_
      refine r_isub dX7_addCode_50 ?_
      rw [nI_s1]
      refine r_aload_n dX7_addCode_51 rfl ?_
      refine r_getI dX7_addCode_52 fl_X7_32 rfl (s0) ?_
      rw [sI_cd]
      refine r_iast dX7_addCode_55 (s4) (nI_in8 8 (by omega) (by decide)) (nI_clamp (by omega)) ?_
      rw [sI_act, sI_wct]
      refine r_iload_n dX7_addCode_56 rfl ?_
      refine r_sipush (v := nI 10000) dX7_addCode_57 (by decide) ?_
      refine r_icmp_lt (tgt := 91) dX7_addCode_60 (by decide) (fun _ => ?_) (fun hz => absurd (show _ from hl) hz)
      refine r_vret rfl dX7_addCode_91 ?_
      exact am_is.mk
    · by_cases hg : c < nI 20000
      · rw [if_pos ⟨Int32.not_lt.mp hl, hg⟩]
        refine r_aload_n dX7_addCode_0 rfl ?_
        refine r_getI dX7_addCode_1 fl_X7_9 rfl (s0) ?_
        rw [sI_ho]
        refine r_iconst (v := nI 1) dX7_addCode_4 (by decide) ?_
        refine r_icmp_lt (tgt := 20) dX7_addCode_5 (by decide) (fun hz => absurd hz (show ¬ _ from (by rw [nI_ltI (by omega) (by omega)]; omega))) (fun _ => ?_)
        refine r_aload_n dX7_addCode_8 rfl ?_
        refine r_getI dX7_addCode_9 fl_X7_32 rfl (s0) ?_
        rw [sI_cd]
        refine r_aload_n dX7_addCode_12 rfl ?_
        refine r_getR dX7_addCode_13 fl_X7_29 rfl (s0) (p5) ?_
        refine r_alen dX7_addCode_16 (s2) (by decide) ?_
        refine r_icmp_lt (tgt := 21) dX7_addCode_17 (by decide) (fun _ => ?_) (fun hz => absurd (show _ from (by rw [nI_ltI (by omega) (by omega)]; omega)) hz)
        refine r_aload_n dX7_addCode_21 rfl ?_
        refine r_getR dX7_addCode_22 fl_X7_29 rfl (s0) (p5) ?_
        refine r_aload_n dX7_addCode_25 rfl ?_
        refine r_getI dX7_addCode_26 fl_X7_32 rfl (s0) ?_
        rw [sI_cd]
        refine r_iload_n dX7_addCode_29 rfl ?_
        refine r_iast dX7_addCode_30 (s2) (nI_in8 520 (by omega) (by decide)) (nI_clamp (by omega)) ?_
        rw [sI_aco, sI_wco]
        refine r_aload_n dX7_addCode_31 rfl ?_
        refine r_dup dX7_addCode_32 rfl ?_
        refine r_getI dX7_addCode_33 fl_X7_32 rfl (s0) ?_
        rw [sI_cd]
        refine r_iconst (v := nI 1) dX7_addCode_36 (by decide) ?_
        refine r_iadd dX7_addCode_37 ?_
        rw [nI_add]
        refine r_putI dX7_addCode_38 fl_X7_32 rfl rfl (s0) ?_
        rw [sI_pcd]
        refine r_aload_n dX7_addCode_41 rfl ?_
        refine r_getR dX7_addCode_42 fl_X7_38 rfl (s0) (p8) ?_
        refine r_aload_n dX7_addCode_45 rfl ?_
        refine r_getI dX7_addCode_46 fl_X7_9 rfl (s0) ?_
        rw [sI_ho]
        refine r_iconst (v := nI 1) dX7_addCode_49 (by decide) ?_
        refine r_isub dX7_addCode_50 ?_
        rw [nI_s1]
        refine r_aload_n dX7_addCode_51 rfl ?_
        refine r_getI dX7_addCode_52 fl_X7_32 rfl (s0) ?_
        rw [sI_cd]
        refine r_iast dX7_addCode_55 (s4) (nI_in8 8 (by omega) (by decide)) (nI_clamp (by omega)) ?_
        rw [sI_act, sI_wct]
        refine r_iload_n dX7_addCode_56 rfl ?_
        refine r_sipush (v := nI 10000) dX7_addCode_57 (by decide) ?_
        refine r_icmp_lt (tgt := 91) dX7_addCode_60 (by decide) (fun hz => absurd hz (show ¬ _ from hl)) (fun _ => ?_)
        refine r_iload_n dX7_addCode_63 rfl ?_
        refine r_sipush (v := nI 20000) dX7_addCode_64 (by decide) ?_
        refine r_icmp_ge (tgt := 91) dX7_addCode_67 (by decide) (fun hz => absurd hz (show ¬ _ from Int32.not_le.mpr hg)) (fun _ => ?_)
        refine r_aload_n dX7_addCode_70 rfl ?_
        refine r_getR dX7_addCode_71 fl_X7_25 rfl (s0) (p4) ?_
        refine r_aload_n dX7_addCode_74 rfl ?_
        refine r_getI dX7_addCode_75 fl_X7_9 rfl (s0) ?_
        rw [sI_ho]
        refine r_iconst (v := nI 1) dX7_addCode_78 (by decide) ?_
        refine r_isub dX7_addCode_79 ?_
        rw [nI_s1]
        refine r_dup2 dX7_addCode_80 rfl rfl ?_
        refine r_iald dX7_addCode_81 (s1) (nI_in8 8 (by omega) (by decide)) (nI_clamp (by omega)) ?_
        rw [sI_alo]
        refine r_iconst (v := nI 1) dX7_addCode_82 (by decide) ?_
        refine r_iload_n dX7_addCode_83 rfl ?_
        refine r_sipush (v := nI 10000) dX7_addCode_84 (by decide) ?_
        refine r_isub dX7_addCode_87 ?_
        refine r_ishl dX7_addCode_88 ?_
        refine r_ior dX7_addCode_89 ?_
        refine r_iast dX7_addCode_90 (s1) (nI_in8 8 (by omega) (by decide)) (nI_clamp (by omega)) ?_
        rw [sI_alo, sI_wlo]
        refine r_vret rfl dX7_addCode_91 ?_
        exact am_is.mk
      · rw [if_neg (fun z => hg z.2)]
        refine r_aload_n dX7_addCode_0 rfl ?_
        refine r_getI dX7_addCode_1 fl_X7_9 rfl (s0) ?_
        rw [sI_ho]
        refine r_iconst (v := nI 1) dX7_addCode_4 (by decide) ?_
        refine r_icmp_lt (tgt := 20) dX7_addCode_5 (by decide) (fun hz => absurd hz (show ¬ _ from (by rw [nI_ltI (by omega) (by omega)]; omega))) (fun _ => ?_)
        refine r_aload_n dX7_addCode_8 rfl ?_
        refine r_getI dX7_addCode_9 fl_X7_32 rfl (s0) ?_
        rw [sI_cd]
        refine r_aload_n dX7_addCode_12 rfl ?_
        refine r_getR dX7_addCode_13 fl_X7_29 rfl (s0) (p5) ?_
        refine r_alen dX7_addCode_16 (s2) (by decide) ?_
        refine r_icmp_lt (tgt := 21) dX7_addCode_17 (by decide) (fun _ => ?_) (fun hz => absurd (show _ from (by rw [nI_ltI (by omega) (by omega)]; omega)) hz)
        refine r_aload_n dX7_addCode_21 rfl ?_
        refine r_getR dX7_addCode_22 fl_X7_29 rfl (s0) (p5) ?_
        refine r_aload_n dX7_addCode_25 rfl ?_
        refine r_getI dX7_addCode_26 fl_X7_32 rfl (s0) ?_
        rw [sI_cd]
        refine r_iload_n dX7_addCode_29 rfl ?_
        refine r_iast dX7_addCode_30 (s2) (nI_in8 520 (by omega) (by decide)) (nI_clamp (by omega)) ?_
        rw [sI_aco, sI_wco]
        refine r_aload_n dX7_addCode_31 rfl ?_
        refine r_dup dX7_addCode_32 rfl ?_
        refine r_getI dX7_addCode_33 fl_X7_32 rfl (s0) ?_
        rw [sI_cd]
        refine r_iconst (v := nI 1) dX7_addCode_36 (by decide) ?_
        refine r_iadd dX7_addCode_37 ?_
        rw [nI_add]
        refine r_putI dX7_addCode_38 fl_X7_32 rfl rfl (s0) ?_
        rw [sI_pcd]
        refine r_aload_n dX7_addCode_41 rfl ?_
        refine r_getR dX7_addCode_42 fl_X7_38 rfl (s0) (p8) ?_
        refine r_aload_n dX7_addCode_45 rfl ?_
        refine r_getI dX7_addCode_46 fl_X7_9 rfl (s0) ?_
        rw [sI_ho]
        refine r_iconst (v := nI 1) dX7_addCode_49 (by decide) ?_
        refine r_isub dX7_addCode_50 ?_
        rw [nI_s1]
        refine r_aload_n dX7_addCode_51 rfl ?_
        refine r_getI dX7_addCode_52 fl_X7_32 rfl (s0) ?_
        rw [sI_cd]
        refine r_iast dX7_addCode_55 (s4) (nI_in8 8 (by omega) (by decide)) (nI_clamp (by omega)) ?_
        rw [sI_act, sI_wct]
        refine r_iload_n dX7_addCode_56 rfl ?_
        refine r_sipush (v := nI 10000) dX7_addCode_57 (by decide) ?_
        refine r_icmp_lt (tgt := 91) dX7_addCode_60 (by decide) (fun hz => absurd hz (show ¬ _ from hl)) (fun _ => ?_)
        refine r_iload_n dX7_addCode_63 rfl ?_
        refine r_sipush (v := nI 20000) dX7_addCode_64 (by decide) ?_
        refine r_icmp_ge (tgt := 91) dX7_addCode_67 (by decide) (fun _ => ?_) (fun hz => absurd (show _ from Int32.not_lt.mp hg) hz)
        refine r_vret rfl dX7_addCode_91 ?_
        exact am_is.mk

theorem dX7_isWordly_0 : decode cX7_isWordly 0 = .ok (.iload_n 0, 1) := by decide +kernel
theorem dX7_isWordly_1 : decode cX7_isWordly 1 = .ok (.bipush 97, 2) := by decide +kernel
theorem dX7_isWordly_3 : decode cX7_isWordly 3 = .ok (.if_icmp .lt 9, 3) := by decide +kernel
theorem dX7_isWordly_6 : decode cX7_isWordly 6 = .ok (.iload_n 0, 1) := by decide +kernel
theorem dX7_isWordly_7 : decode cX7_isWordly 7 = .ok (.bipush 122, 2) := by decide +kernel
theorem dX7_isWordly_9 : decode cX7_isWordly 9 = .ok (.if_icmp .le 15, 3) := by decide +kernel
theorem dX7_isWordly_12 : decode cX7_isWordly 12 = .ok (.iload_n 0, 1) := by decide +kernel
theorem dX7_isWordly_13 : decode cX7_isWordly 13 = .ok (.bipush 48, 2) := by decide +kernel
theorem dX7_isWordly_15 : decode cX7_isWordly 15 = .ok (.if_icmp .lt 13, 3) := by decide +kernel
theorem dX7_isWordly_18 : decode cX7_isWordly 18 = .ok (.iload_n 0, 1) := by decide +kernel
theorem dX7_isWordly_19 : decode cX7_isWordly 19 = .ok (.bipush 57, 2) := by decide +kernel
theorem dX7_isWordly_21 : decode cX7_isWordly 21 = .ok (.if_icmp .gt 7, 3) := by decide +kernel
theorem dX7_isWordly_24 : decode cX7_isWordly 24 = .ok (.iconst 1, 1) := by decide +kernel
theorem dX7_isWordly_25 : decode cX7_isWordly 25 = .ok (.goto 4, 3) := by decide +kernel
theorem dX7_isWordly_28 : decode cX7_isWordly 28 = .ok (.iconst 0, 1) := by decide +kernel
theorem dX7_isWordly_29 : decode cX7_isWordly 29 = .ok (.ireturn, 1) := by decide +kernel
set_option maxHeartbeats 4000000 in
set_option maxRecDepth 100000 in
theorem c_X7_isWordly (x : Int32) {n : Nat} {kd : mK} {I : mI} {J : mJ} {P : mP} : Ct yX7_isWordly cX7_isWordly 1 (some .boolean) 1 0 0 [.int x] n kd I J P (am_is (some (.int (bz (wdl x)))) n kd I J P) := by
  refine ct_of 0 (by decide +kernel) (Nat.le_of_ble_eq_true rfl) rfl ?_
  refine r_iload_n dX7_isWordly_0 rfl ?_
  refine r_bipush (v := nI 97) dX7_isWordly_1 (by decide) ?_
  refine r_icmp_lt (tgt := 12) dX7_isWordly_3 (by decide) (fun h3 => ?_) (fun h3 => ?_)
  · skip
    refine r_iload_n dX7_isWordly_12 rfl ?_
    refine r_bipush (v := nI 48) dX7_isWordly_13 (by decide) ?_
    refine r_icmp_lt (tgt := 28) dX7_isWordly_15 (by decide) (fun h15 => ?_) (fun h15 => ?_)
    · skip
      refine r_iconst (v := nI 0) dX7_isWordly_28 (by decide) ?_
      refine r_zret rfl dX7_isWordly_29 (by first | exact Or.inl rfl | exact Or.inr rfl | assumption) ?_
      unfold wdl bz
      simp [*, Int32.not_lt, Int32.not_le] at *
      try simp [*]
      try exact am_is.mk
    · skip
      refine r_iload_n dX7_isWordly_18 rfl ?_
      refine r_bipush (v := nI 57) dX7_isWordly_19 (by decide) ?_
      refine r_icmp_gt (tgt := 28) dX7_isWordly_21 (by decide) (fun h21 => ?_) (fun h21 => ?_)
      · skip
        refine r_iconst (v := nI 0) dX7_isWordly_28 (by decide) ?_
        refine r_zret rfl dX7_isWordly_29 (by first | exact Or.inl rfl | exact Or.inr rfl | assumption) ?_
        unfold wdl bz
        simp [*, Int32.not_lt, Int32.not_le] at *
        try simp [*]
        try exact am_is.mk
      · skip
        refine r_iconst (v := nI 1) dX7_isWordly_24 (by decide) ?_
        refine r_goto (tgt := 29) dX7_isWordly_25 (by decide) ?_
        refine r_zret rfl dX7_isWordly_29 (by first | exact Or.inl rfl | exact Or.inr rfl | assumption) ?_
        unfold wdl bz
        simp [*, Int32.not_lt, Int32.not_le] at *
        try simp [*]
        try exact am_is.mk
  · skip
    refine r_iload_n dX7_isWordly_6 rfl ?_
    refine r_bipush (v := nI 122) dX7_isWordly_7 (by decide) ?_
    refine r_icmp_le (tgt := 24) dX7_isWordly_9 (by decide) (fun h9 => ?_) (fun h9 => ?_)
    · skip
      refine r_iconst (v := nI 1) dX7_isWordly_24 (by decide) ?_
      refine r_goto (tgt := 29) dX7_isWordly_25 (by decide) ?_
      refine r_zret rfl dX7_isWordly_29 (by first | exact Or.inl rfl | exact Or.inr rfl | assumption) ?_
      unfold wdl bz
      simp [*, Int32.not_lt, Int32.not_le] at *
      try simp [*]
      try exact am_is.mk
    · skip
      refine r_iload_n dX7_isWordly_12 rfl ?_
      refine r_bipush (v := nI 48) dX7_isWordly_13 (by decide) ?_
      refine r_icmp_lt (tgt := 28) dX7_isWordly_15 (by decide) (fun h15 => ?_) (fun h15 => ?_)
      · skip
        refine r_iconst (v := nI 0) dX7_isWordly_28 (by decide) ?_
        refine r_zret rfl dX7_isWordly_29 (by first | exact Or.inl rfl | exact Or.inr rfl | assumption) ?_
        unfold wdl bz
        simp [*, Int32.not_lt, Int32.not_le] at *
        try simp [*]
        try exact am_is.mk
      · skip
        refine r_iload_n dX7_isWordly_18 rfl ?_
        refine r_bipush (v := nI 57) dX7_isWordly_19 (by decide) ?_
        refine r_icmp_gt (tgt := 28) dX7_isWordly_21 (by decide) (fun h21 => ?_) (fun h21 => ?_)
        · skip
          refine r_iconst (v := nI 0) dX7_isWordly_28 (by decide) ?_
          refine r_zret rfl dX7_isWordly_29 (by first | exact Or.inl rfl | exact Or.inr rfl | assumption) ?_
          unfold wdl bz
          simp [*, Int32.not_lt, Int32.not_le] at *
          try simp [*]
          try exact am_is.mk
        · skip
          refine r_iconst (v := nI 1) dX7_isWordly_24 (by decide) ?_
          refine r_goto (tgt := 29) dX7_isWordly_25 (by decide) ?_
          refine r_zret rfl dX7_isWordly_29 (by first | exact Or.inl rfl | exact Or.inr rfl | assumption) ?_
          unfold wdl bz
          simp [*, Int32.not_lt, Int32.not_le] at *
          try simp [*]
          try exact am_is.mk


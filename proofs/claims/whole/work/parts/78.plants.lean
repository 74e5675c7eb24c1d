/-! THE REFERENCE PLANTS: its state as a record, small steps -/
abbrev PS : Type := Int32 × Int32 × Nat × Nat × (Nat → Int32) × (Nat → Int32) × (Nat → Int32) × (Nat → Int32) × (Nat → Int32) × (Nat → Int32) × (Nat → Int32) × (Nat → Int32) × (Nat → Int32) × (Nat → Int32) × (Nat → Int32)
def gIRow (q : PS) (W : Nat → Int32) : Nat → Int32 := match q with
  | (it, ho, tp, pl, so, de, ri, mu, ra, lk, cd, te, tf, tt, pg) => fun j => if j = 78 then it else if j = 1 then ho else if j = 30 then nI tp else if j = 77 then nI pl else W j
def gI (m : Nat) (q : PS) (I : mI) : mI := match q with
  | (it, ho, tp, pl, so, de, ri, mu, ra, lk, cd, te, tf, tt, pg) => fun a => if a = m then gIRow (it, ho, tp, pl, so, de, ri, mu, ra, lk, cd, te, tf, tt, pg) (I m) else if a = m + 1 then so else if a = m + 2 then de else if a = m + 3 then ri else if a = m + 4 then mu else if a = m + 5 then ra else if a = m + 6 then lk else if a = m + 7 then cd else if a = m + 8 then te else if a = m + 9 then tf else if a = m + 10 then tt else if a = m + 40 then pg else I a
section
variable {it : Int32} {ho : Int32} {tp : Nat} {pl : Nat} {so : Nat → Int32} {de : Nat → Int32} {ri : Nat → Int32} {mu : Nat → Int32} {ra : Nat → Int32} {lk : Nat → Int32} {cd : Nat → Int32} {te : Nat → Int32} {tf : Nat → Int32} {tt : Nat → Int32} {pg : Nat → Int32}
theorem gI_it (m : Nat) (I : mI) : gI m (it, ho, tp, pl, so, de, ri, mu, ra, lk, cd, te, tf, tt, pg) I m 78 = it := by simp [gI, gIRow]
theorem gI_pit (m : Nat) (I : mI) (x : Int32) : va_up (gI m (it, ho, tp, pl, so, de, ri, mu, ra, lk, cd, te, tf, tt, pg) I) m (va_up (gI m (it, ho, tp, pl, so, de, ri, mu, ra, lk, cd, te, tf, tt, pg) I m) 78 (x)) = gI m (x, ho, tp, pl, so, de, ri, mu, ra, lk, cd, te, tf, tt, pg) I := by
  funext a
  by_cases h : a = m
  · subst h
    rw [am_up_s]
    funext j
    by_cases hj : j = 78
    · subst hj; rw [am_up_s]; simp [gI, gIRow]
    · rw [am_up_n _ _ hj]; simp [gI, gIRow, hj]
  · rw [am_up_n _ _ h]; simp [gI, h]
theorem gI_ho (m : Nat) (I : mI) : gI m (it, ho, tp, pl, so, de, ri, mu, ra, lk, cd, te, tf, tt, pg) I m 1 = ho := by simp [gI, gIRow]
theorem gI_pho (m : Nat) (I : mI) (x : Int32) : va_up (gI m (it, ho, tp, pl, so, de, ri, mu, ra, lk, cd, te, tf, tt, pg) I) m (va_up (gI m (it, ho, tp, pl, so, de, ri, mu, ra, lk, cd, te, tf, tt, pg) I m) 1 (x)) = gI m (it, x, tp, pl, so, de, ri, mu, ra, lk, cd, te, tf, tt, pg) I := by
  funext a
  by_cases h : a = m
  · subst h
    rw [am_up_s]
    funext j
    by_cases hj : j = 1
    · subst hj; rw [am_up_s]; simp [gI, gIRow]
    · rw [am_up_n _ _ hj]; simp [gI, gIRow, hj]
  · rw [am_up_n _ _ h]; simp [gI, h]
theorem gI_tp (m : Nat) (I : mI) : gI m (it, ho, tp, pl, so, de, ri, mu, ra, lk, cd, te, tf, tt, pg) I m 30 = nI tp := by simp [gI, gIRow]
theorem gI_ptp (m : Nat) (I : mI) (x : Nat) : va_up (gI m (it, ho, tp, pl, so, de, ri, mu, ra, lk, cd, te, tf, tt, pg) I) m (va_up (gI m (it, ho, tp, pl, so, de, ri, mu, ra, lk, cd, te, tf, tt, pg) I m) 30 (nI x)) = gI m (it, ho, x, pl, so, de, ri, mu, ra, lk, cd, te, tf, tt, pg) I := by
  funext a
  by_cases h : a = m
  · subst h
    rw [am_up_s]
    funext j
    by_cases hj : j = 30
    · subst hj; rw [am_up_s]; simp [gI, gIRow]
    · rw [am_up_n _ _ hj]; simp [gI, gIRow, hj]
  · rw [am_up_n _ _ h]; simp [gI, h]
theorem gI_pl (m : Nat) (I : mI) : gI m (it, ho, tp, pl, so, de, ri, mu, ra, lk, cd, te, tf, tt, pg) I m 77 = nI pl := by simp [gI, gIRow]
theorem gI_ppl (m : Nat) (I : mI) (x : Nat) : va_up (gI m (it, ho, tp, pl, so, de, ri, mu, ra, lk, cd, te, tf, tt, pg) I) m (va_up (gI m (it, ho, tp, pl, so, de, ri, mu, ra, lk, cd, te, tf, tt, pg) I m) 77 (nI x)) = gI m (it, ho, tp, x, so, de, ri, mu, ra, lk, cd, te, tf, tt, pg) I := by
  funext a
  by_cases h : a = m
  · subst h
    rw [am_up_s]
    funext j
    by_cases hj : j = 77
    · subst hj; rw [am_up_s]; simp [gI, gIRow]
    · rw [am_up_n _ _ hj]; simp [gI, gIRow, hj]
  · rw [am_up_n _ _ h]; simp [gI, h]
theorem gI_aso (m : Nat) (I : mI) : gI m (it, ho, tp, pl, so, de, ri, mu, ra, lk, cd, te, tf, tt, pg) I (m + 1) = so := by simp [gI]
theorem gI_wso (m : Nat) (I : mI) (W : Nat → Int32) : va_up (gI m (it, ho, tp, pl, so, de, ri, mu, ra, lk, cd, te, tf, tt, pg) I) (m + 1) W = gI m (it, ho, tp, pl, W, de, ri, mu, ra, lk, cd, te, tf, tt, pg) I := by
  funext a
  by_cases h : a = m + 1
  · subst h; rw [am_up_s]; simp [gI]
  · rw [am_up_n _ _ h]; simp [gI, gIRow, h]
theorem gI_ade (m : Nat) (I : mI) : gI m (it, ho, tp, pl, so, de, ri, mu, ra, lk, cd, te, tf, tt, pg) I (m + 2) = de := by simp [gI]
theorem gI_wde (m : Nat) (I : mI) (W : Nat → Int32) : va_up (gI m (it, ho, tp, pl, so, de, ri, mu, ra, lk, cd, te, tf, tt, pg) I) (m + 2) W = gI m (it, ho, tp, pl, so, W, ri, mu, ra, lk, cd, te, tf, tt, pg) I := by
  funext a
  by_cases h : a = m + 2
  · subst h; rw [am_up_s]; simp [gI]
  · rw [am_up_n _ _ h]; simp [gI, gIRow, h]
theorem gI_ari (m : Nat) (I : mI) : gI m (it, ho, tp, pl, so, de, ri, mu, ra, lk, cd, te, tf, tt, pg) I (m + 3) = ri := by simp [gI]
theorem gI_wri (m : Nat) (I : mI) (W : Nat → Int32) : va_up (gI m (it, ho, tp, pl, so, de, ri, mu, ra, lk, cd, te, tf, tt, pg) I) (m + 3) W = gI m (it, ho, tp, pl, so, de, W, mu, ra, lk, cd, te, tf, tt, pg) I := by
  funext a
  by_cases h : a = m + 3
  · subst h; rw [am_up_s]; simp [gI]
  · rw [am_up_n _ _ h]; simp [gI, gIRow, h]
theorem gI_amu (m : Nat) (I : mI) : gI m (it, ho, tp, pl, so, de, ri, mu, ra, lk, cd, te, tf, tt, pg) I (m + 4) = mu := by simp [gI]
theorem gI_wmu (m : Nat) (I : mI) (W : Nat → Int32) : va_up (gI m (it, ho, tp, pl, so, de, ri, mu, ra, lk, cd, te, tf, tt, pg) I) (m + 4) W = gI m (it, ho, tp, pl, so, de, ri, W, ra, lk, cd, te, tf, tt, pg) I := by
  funext a
  by_cases h : a = m + 4
  · subst h; rw [am_up_s]; simp [gI]
  · rw [am_up_n _ _ h]; simp [gI, gIRow, h]
theorem gI_ara (m : Nat) (I : mI) : gI m (it, ho, tp, pl, so, de, ri, mu, ra, lk, cd, te, tf, tt, pg) I (m + 5) = ra := by simp [gI]
theorem gI_wra (m : Nat) (I : mI) (W : Nat → Int32) : va_up (gI m (it, ho, tp, pl, so, de, ri, mu, ra, lk, cd, te, tf, tt, pg) I) (m + 5) W = gI m (it, ho, tp, pl, so, de, ri, mu, W, lk, cd, te, tf, tt, pg) I := by
  funext a
  by_cases h : a = m + 5
  · subst h; rw [am_up_s]; simp [gI]
  · rw [am_up_n _ _ h]; simp [gI, gIRow, h]
theorem gI_alk (m : Nat) (I : mI) : gI m (it, ho, tp, pl, so, de, ri, mu, ra, lk, cd, te, tf, tt, pg) I (m + 6) = lk := by simp [gI]
theorem gI_wlk (m : Nat) (I : mI) (W : Nat → Int32) : va_up (gI m (it, ho, tp, pl, so, de, ri, mu, ra, lk, cd, te, tf, tt, pg) I) (m + 6) W = gI m (it, ho, tp, pl, so, de, ri, mu, ra, W, cd, te, tf, tt, pg) I := by
  funext a
  by_cases h : a = m + 6
  · subst h; rw [am_up_s]; simp [gI]
  · rw [am_up_n _ _ h]; simp [gI, gIRow, h]
theorem gI_acd (m : Nat) (I : mI) : gI m (it, ho, tp, pl, so, de, ri, mu, ra, lk, cd, te, tf, tt, pg) I (m + 7) = cd := by simp [gI]
theorem gI_wcd (m : Nat) (I : mI) (W : Nat → Int32) : va_up (gI m (it, ho, tp, pl, so, de, ri, mu, ra, lk, cd, te, tf, tt, pg) I) (m + 7) W = gI m (it, ho, tp, pl, so, de, ri, mu, ra, lk, W, te, tf, tt, pg) I := by
  funext a
  by_cases h : a = m + 7
  · subst h; rw [am_up_s]; simp [gI]
  · rw [am_up_n _ _ h]; simp [gI, gIRow, h]
theorem gI_ate (m : Nat) (I : mI) : gI m (it, ho, tp, pl, so, de, ri, mu, ra, lk, cd, te, tf, tt, pg) I (m + 8) = te := by simp [gI]
theorem gI_wte (m : Nat) (I : mI) (W : Nat → Int32) : va_up (gI m (it, ho, tp, pl, so, de, ri, mu, ra, lk, cd, te, tf, tt, pg) I) (m + 8) W = gI m (it, ho, tp, pl, so, de, ri, mu, ra, lk, cd, W, tf, tt, pg) I := by
  funext a
  by_cases h : a = m + 8
  · subst h; rw [am_up_s]; simp [gI]
  · rw [am_up_n _ _ h]; simp [gI, gIRow, h]
theorem gI_atf (m : Nat) (I : mI) : gI m (it, ho, tp, pl, so, de, ri, mu, ra, lk, cd, te, tf, tt, pg) I (m + 9) = tf := by simp [gI]
theorem gI_wtf (m : Nat) (I : mI) (W : Nat → Int32) : va_up (gI m (it, ho, tp, pl, so, de, ri, mu, ra, lk, cd, te, tf, tt, pg) I) (m + 9) W = gI m (it, ho, tp, pl, so, de, ri, mu, ra, lk, cd, te, W, tt, pg) I := by
  funext a
  by_cases h : a = m + 9
  · subst h; rw [am_up_s]; simp [gI]
  · rw [am_up_n _ _ h]; simp [gI, gIRow, h]
theorem gI_att (m : Nat) (I : mI) : gI m (it, ho, tp, pl, so, de, ri, mu, ra, lk, cd, te, tf, tt, pg) I (m + 10) = tt := by simp [gI]
theorem gI_wtt (m : Nat) (I : mI) (W : Nat → Int32) : va_up (gI m (it, ho, tp, pl, so, de, ri, mu, ra, lk, cd, te, tf, tt, pg) I) (m + 10) W = gI m (it, ho, tp, pl, so, de, ri, mu, ra, lk, cd, te, tf, W, pg) I := by
  funext a
  by_cases h : a = m + 10
  · subst h; rw [am_up_s]; simp [gI]
  · rw [am_up_n _ _ h]; simp [gI, gIRow, h]
theorem gI_apg (m : Nat) (I : mI) : gI m (it, ho, tp, pl, so, de, ri, mu, ra, lk, cd, te, tf, tt, pg) I (m + 40) = pg := by simp [gI]
theorem gI_wpg (m : Nat) (I : mI) (W : Nat → Int32) : va_up (gI m (it, ho, tp, pl, so, de, ri, mu, ra, lk, cd, te, tf, tt, pg) I) (m + 40) W = gI m (it, ho, tp, pl, so, de, ri, mu, ra, lk, cd, te, tf, tt, W) I := by
  funext a
  by_cases h : a = m + 40
  · subst h; rw [am_up_s]; simp [gI]
  · rw [am_up_n _ _ h]; simp [gI, gIRow, h]
theorem gI_o (m : Nat) (I : mI) {j : Nat} (h : j ≠ 78 ∧ j ≠ 1 ∧ j ≠ 30 ∧ j ≠ 77) : gI m (it, ho, tp, pl, so, de, ri, mu, ra, lk, cd, te, tf, tt, pg) I m j = I m j := by simp [gI, gIRow, h.1, h.2.1, h.2.2.1, h.2.2.2]
theorem gI_ne (m : Nat) (I : mI) {a : Nat} (h : a ≠ m) (h1 : a ≠ m + 1) (h2 : a ≠ m + 2) (h3 : a ≠ m + 3) (h4 : a ≠ m + 4) (h5 : a ≠ m + 5) (h6 : a ≠ m + 6) (h7 : a ≠ m + 7) (h8 : a ≠ m + 8) (h9 : a ≠ m + 9) (h10 : a ≠ m + 10) (h40 : a ≠ m + 40) : gI m (it, ho, tp, pl, so, de, ri, mu, ra, lk, cd, te, tf, tt, pg) I a = I a := by simp [gI, h, h1, h2, h3, h4, h5, h6, h7, h8, h9, h10, h40]
end
def pD (q : PS) : PS := match q with
  | (it, ho, tp, pl, so, de, ri, mu, ra, lk, cd, te, tf, tt, pg) => (lcg it, ho, tp, pl, so, de, ri, mu, ra, lk, cd, te, tf, tt, pg)
def pW (c : Int32) (q : PS) : PS := match q with
  | (it, ho, tp, pl, so, de, ri, mu, ra, lk, cd, te, tf, tt, pg) => (it, ho, tp, pl + 1, so, de, ri, mu, ra, lk, cd, te, tf, tt, va_up pg pl c)
def pWs : List Int32 → PS → PS
  | [], q => q
  | c :: t, q => pWs t (pW c q)
def pV (h : Nat) (q : PS) : PS := match q with
  | (it, ho, tp, pl, so, de, ri, mu, ra, lk, cd, te, tf, tt, pg) => (it, ho, tp + 2, pl, so, de, ri, mu, ra, lk, va_up (va_up cd tp (nI 2)) (tp + 1) (nI (14 + h)), te, tf, tt, pg)
def pA (a : Int32) (q : PS) : PS := match q with
  | (it, ho, tp, pl, so, de, ri, mu, ra, lk, cd, te, tf, tt, pg) => (it, ho, tp + 1, pl, so, de, ri, mu, ra, lk, va_up cd tp a, te, tf, tt, pg)
def pP (v : Nat) (q : PS) : PS := match q with
  | (it, ho, tp, pl, so, de, ri, mu, ra, lk, cd, te, tf, tt, pg) => (it, ho, tp + 2, pl, so, de, ri, mu, ra, lk, va_up (va_up cd tp (nI 1)) (tp + 1) (nI v), te, tf, tt, pg)
def pIt (q : PS) : Int32 := q.1
def pTp (q : PS) : Nat := q.2.2.1
def pPl (q : PS) : Nat := q.2.2.2.1
theorem dX10_draw_0 : decode cX10_draw 0 = .ok (.aload_n 0, 1) := by decide +kernel
theorem dX10_draw_1 : decode cX10_draw 1 = .ok (.aload_n 0, 1) := by decide +kernel
theorem dX10_draw_2 : decode cX10_draw 2 = .ok (.getfield 529, 3) := by decide +kernel
theorem dX10_draw_5 : decode cX10_draw 5 = .ok (.ldc_w 474, 3) := by decide +kernel
theorem dX10_draw_8 : decode cX10_draw 8 = .ok (.imul, 1) := by decide +kernel
theorem dX10_draw_9 : decode cX10_draw 9 = .ok (.sipush 12345, 3) := by decide +kernel
theorem dX10_draw_12 : decode cX10_draw 12 = .ok (.iadd, 1) := by decide +kernel
theorem dX10_draw_13 : decode cX10_draw 13 = .ok (.putfield 529, 3) := by decide +kernel
theorem dX10_draw_16 : decode cX10_draw 16 = .ok (.aload_n 0, 1) := by decide +kernel
theorem dX10_draw_17 : decode cX10_draw 17 = .ok (.getfield 529, 3) := by decide +kernel
theorem dX10_draw_20 : decode cX10_draw 20 = .ok (.bipush 16, 2) := by decide +kernel
theorem dX10_draw_22 : decode cX10_draw 22 = .ok (.ishr, 1) := by decide +kernel
theorem dX10_draw_23 : decode cX10_draw 23 = .ok (.sipush 32767, 3) := by decide +kernel
theorem dX10_draw_26 : decode cX10_draw 26 = .ok (.iand, 1) := by decide +kernel
theorem dX10_draw_27 : decode cX10_draw 27 = .ok (.iload_n 1, 1) := by decide +kernel
theorem dX10_draw_28 : decode cX10_draw 28 = .ok (.irem, 1) := by decide +kernel
theorem dX10_draw_29 : decode cX10_draw 29 = .ok (.ireturn, 1) := by decide +kernel
set_option maxHeartbeats 4000000 in
set_option maxRecDepth 100000 in
theorem c_X10_draw (m : Nat) (it : Int32) (ho : Int32) (tp : Nat) (pl : Nat) (so : Nat → Int32) (de : Nat → Int32) (ri : Nat → Int32) (mu : Nat → Int32) (ra : Nat → Int32) (lk : Nat → Int32) (cd : Nat → Int32) (te : Nat → Int32) (tf : Nat → Int32) (tt : Nat → Int32) (pg : Nat → Int32) (k : Nat) {n : Nat} {kd : mK} {I : mI} {J : mJ} {P : mP} (hM : kM kd P m) (hk0 : 0 < k) (hk1 : k < 2 ^ 31) : Ct yX10_draw cX10_draw 2 (some .int) 1 0 0 [.ref m, .int (nI k)] n kd (gI m (it, ho, tp, pl, so, de, ri, mu, ra, lk, cd, te, tf, tt, pg) I) J P (am_is (some (.int (nI (dv (lcg it) % k)))) n kd (gI m (pD (it, ho, tp, pl, so, de, ri, mu, ra, lk, cd, te, tf, tt, pg)) I) J P) := by
  refine ct_of 0 (by decide +kernel) (Nat.le_of_ble_eq_true rfl) rfl ?_
  refine r_aload_n dX10_draw_0 rfl ?_
  refine r_aload_n dX10_draw_1 rfl ?_
  refine r_getI dX10_draw_2 fl_X10_529 rfl (kM_0 hM) ?_
  rw [gI_it]
  refine r_ldcw dX10_draw_5 ic_X10_474 ?_
  refine r_imul dX10_draw_8 ?_
  refine r_sipush (v := nI 12345) dX10_draw_9 (by decide) ?_
  refine r_iadd dX10_draw_12 ?_
  refine r_putI dX10_draw_13 fl_X10_529 rfl rfl (kM_0 hM) ?_
  rw [gI_pit]
  refine r_aload_n dX10_draw_16 rfl ?_
  refine r_getI dX10_draw_17 fl_X10_529 rfl (kM_0 hM) ?_
  rw [gI_it]
  refine r_bipush (v := nI 16) dX10_draw_20 (by decide) ?_
  refine r_ishr dX10_draw_22 ?_
  refine r_sipush (v := nI 32767) dX10_draw_23 (by decide) ?_
  refine r_iand dX10_draw_26 ?_
  refine r_iload_n dX10_draw_27 rfl ?_
  refine r_irem dX10_draw_28 (nI_ne0 hk0 hk1) ?_
  rw [dv_rem _ hk0 hk1]
  refine r_iret rfl dX10_draw_29 ?_
  exact am_is.mk

theorem dX10_writes_0 : decode cX10_writes 0 = .ok (.aload_n 0, 1) := by decide +kernel
theorem dX10_writes_1 : decode cX10_writes 1 = .ok (.getfield 145, 3) := by decide +kernel
theorem dX10_writes_4 : decode cX10_writes 4 = .ok (.aload_n 0, 1) := by decide +kernel
theorem dX10_writes_5 : decode cX10_writes 5 = .ok (.getfield 505, 3) := by decide +kernel
theorem dX10_writes_8 : decode cX10_writes 8 = .ok (.iload_n 1, 1) := by decide +kernel
theorem dX10_writes_9 : decode cX10_writes 9 = .ok (.iastore, 1) := by decide +kernel
theorem dX10_writes_10 : decode cX10_writes 10 = .ok (.aload_n 0, 1) := by decide +kernel
theorem dX10_writes_11 : decode cX10_writes 11 = .ok (.dup, 1) := by decide +kernel
theorem dX10_writes_12 : decode cX10_writes 12 = .ok (.getfield 505, 3) := by decide +kernel
theorem dX10_writes_15 : decode cX10_writes 15 = .ok (.iconst 1, 1) := by decide +kernel
theorem dX10_writes_16 : decode cX10_writes 16 = .ok (.iadd, 1) := by decide +kernel
theorem dX10_writes_17 : decode cX10_writes 17 = .ok (.putfield 505, 3) := by decide +kernel
theorem dX10_writes_20 : decode cX10_writes 20 = .ok (.return_, 1) := by decide +kernel
set_option maxHeartbeats 4000000 in
set_option maxRecDepth 100000 in
theorem c_X10_writes (m : Nat) (it : Int32) (ho : Int32) (tp : Nat) (pl : Nat) (so : Nat → Int32) (de : Nat → Int32) (ri : Nat → Int32) (mu : Nat → Int32) (ra : Nat → Int32) (lk : Nat → Int32) (cd : Nat → Int32) (te : Nat → Int32) (tf : Nat → Int32) (tt : Nat → Int32) (pg : Nat → Int32) (c : Int32) {n : Nat} {kd : mK} {I : mI} {J : mJ} {P : mP} (hM : kM kd P m) (hp : pl < 1100) : Ct yX10_writes cX10_writes 2 none 1 0 0 [.ref m, .int c] n kd (gI m (it, ho, tp, pl, so, de, ri, mu, ra, lk, cd, te, tf, tt, pg) I) J P (am_is none n kd (gI m (pW c (it, ho, tp, pl, so, de, ri, mu, ra, lk, cd, te, tf, tt, pg)) I) J P) := by
  refine ct_of 0 (by decide +kernel) (Nat.le_of_ble_eq_true rfl) rfl ?_
  refine r_aload_n dX10_writes_0 rfl ?_
  refine r_getR dX10_writes_1 fl_X10_145 rfl (kM_0 hM) (pM_76 hM) ?_
  refine r_aload_n dX10_writes_4 rfl ?_
  refine r_getI dX10_writes_5 fl_X10_505 rfl (kM_0 hM) ?_
  rw [gI_pl]
  refine r_iload_n dX10_writes_8 rfl ?_
  refine r_iast dX10_writes_9 (aM_76 hM) (nI_in8 1100 (by omega) (by decide)) (nI_clamp (by omega)) ?_
  rw [gI_apg, gI_wpg]
  refine r_aload_n dX10_writes_10 rfl ?_
  refine r_dup dX10_writes_11 rfl ?_
  refine r_getI dX10_writes_12 fl_X10_505 rfl (kM_0 hM) ?_
  rw [gI_pl]
  refine r_iconst (v := nI 1) dX10_writes_15 (by decide) ?_
  refine r_iadd dX10_writes_16 ?_
  rw [nI_add]
  refine r_putI dX10_writes_17 fl_X10_505 rfl rfl (kM_0 hM) ?_
  rw [gI_ppl]
  refine r_vret rfl dX10_writes_20 ?_
  exact am_is.mk

theorem dX10_plantsAct_0 : decode cX10_plantsAct 0 = .ok (.aload_n 0, 1) := by decide +kernel
theorem dX10_plantsAct_1 : decode cX10_plantsAct 1 = .ok (.getfield 32, 3) := by decide +kernel
theorem dX10_plantsAct_4 : decode cX10_plantsAct 4 = .ok (.aload_n 0, 1) := by decide +kernel
theorem dX10_plantsAct_5 : decode cX10_plantsAct 5 = .ok (.getfield 275, 3) := by decide +kernel
theorem dX10_plantsAct_8 : decode cX10_plantsAct 8 = .ok (.iload_n 1, 1) := by decide +kernel
theorem dX10_plantsAct_9 : decode cX10_plantsAct 9 = .ok (.iastore, 1) := by decide +kernel
theorem dX10_plantsAct_10 : decode cX10_plantsAct 10 = .ok (.aload_n 0, 1) := by decide +kernel
theorem dX10_plantsAct_11 : decode cX10_plantsAct 11 = .ok (.dup, 1) := by decide +kernel
theorem dX10_plantsAct_12 : decode cX10_plantsAct 12 = .ok (.getfield 275, 3) := by decide +kernel
theorem dX10_plantsAct_15 : decode cX10_plantsAct 15 = .ok (.iconst 1, 1) := by decide +kernel
theorem dX10_plantsAct_16 : decode cX10_plantsAct 16 = .ok (.iadd, 1) := by decide +kernel
theorem dX10_plantsAct_17 : decode cX10_plantsAct 17 = .ok (.putfield 275, 3) := by decide +kernel
theorem dX10_plantsAct_20 : decode cX10_plantsAct 20 = .ok (.return_, 1) := by decide +kernel
set_option maxHeartbeats 4000000 in
set_option maxRecDepth 100000 in
theorem c_X10_plantsAct (m : Nat) (it : Int32) (ho : Int32) (tp : Nat) (pl : Nat) (so : Nat → Int32) (de : Nat → Int32) (ri : Nat → Int32) (mu : Nat → Int32) (ra : Nat → Int32) (lk : Nat → Int32) (cd : Nat → Int32) (te : Nat → Int32) (tf : Nat → Int32) (tt : Nat → Int32) (pg : Nat → Int32) (c : Int32) {n : Nat} {kd : mK} {I : mI} {J : mJ} {P : mP} (hM : kM kd P m) (hp : tp < 1300) : Ct yX10_plantsAct cX10_plantsAct 2 none 1 0 0 [.ref m, .int c] n kd (gI m (it, ho, tp, pl, so, de, ri, mu, ra, lk, cd, te, tf, tt, pg) I) J P (am_is none n kd (gI m (pA c (it, ho, tp, pl, so, de, ri, mu, ra, lk, cd, te, tf, tt, pg)) I) J P) := by
  refine ct_of 0 (by decide +kernel) (Nat.le_of_ble_eq_true rfl) rfl ?_
  refine r_aload_n dX10_plantsAct_0 rfl ?_
  refine r_getR dX10_plantsAct_1 fl_X10_32 rfl (kM_0 hM) (pM_10 hM) ?_
  refine r_aload_n dX10_plantsAct_4 rfl ?_
  refine r_getI dX10_plantsAct_5 fl_X10_275 rfl (kM_0 hM) ?_
  rw [gI_tp]
  refine r_iload_n dX10_plantsAct_8 rfl ?_
  refine r_iast dX10_plantsAct_9 (aM_10 hM) (nI_in8 1300 (by omega) (by decide)) (nI_clamp (by omega)) ?_
  rw [gI_acd, gI_wcd]
  refine r_aload_n dX10_plantsAct_10 rfl ?_
  refine r_dup dX10_plantsAct_11 rfl ?_
  refine r_getI dX10_plantsAct_12 fl_X10_275 rfl (kM_0 hM) ?_
  rw [gI_tp]
  refine r_iconst (v := nI 1) dX10_plantsAct_15 (by decide) ?_
  refine r_iadd dX10_plantsAct_16 ?_
  rw [nI_add]
  refine r_putI dX10_plantsAct_17 fl_X10_275 rfl rfl (kM_0 hM) ?_
  rw [gI_ptp]
  refine r_vret rfl dX10_plantsAct_20 ?_
  exact am_is.mk

theorem dX10_plantsValue_0 : decode cX10_plantsValue 0 = .ok (.aload_n 0, 1) := by decide +kernel
theorem dX10_plantsValue_1 : decode cX10_plantsValue 1 = .ok (.getfield 32, 3) := by decide +kernel
theorem dX10_plantsValue_4 : decode cX10_plantsValue 4 = .ok (.aload_n 0, 1) := by decide +kernel
theorem dX10_plantsValue_5 : decode cX10_plantsValue 5 = .ok (.getfield 275, 3) := by decide +kernel
theorem dX10_plantsValue_8 : decode cX10_plantsValue 8 = .ok (.iconst 2, 1) := by decide +kernel
theorem dX10_plantsValue_9 : decode cX10_plantsValue 9 = .ok (.iastore, 1) := by decide +kernel
theorem dX10_plantsValue_10 : decode cX10_plantsValue 10 = .ok (.aload_n 0, 1) := by decide +kernel
theorem dX10_plantsValue_11 : decode cX10_plantsValue 11 = .ok (.getfield 32, 3) := by decide +kernel
theorem dX10_plantsValue_14 : decode cX10_plantsValue 14 = .ok (.aload_n 0, 1) := by decide +kernel
theorem dX10_plantsValue_15 : decode cX10_plantsValue 15 = .ok (.getfield 275, 3) := by decide +kernel
theorem dX10_plantsValue_18 : decode cX10_plantsValue 18 = .ok (.iconst 1, 1) := by decide +kernel
theorem dX10_plantsValue_19 : decode cX10_plantsValue 19 = .ok (.iadd, 1) := by decide +kernel
theorem dX10_plantsValue_20 : decode cX10_plantsValue 20 = .ok (.bipush 14, 2) := by decide +kernel
theorem dX10_plantsValue_22 : decode cX10_plantsValue 22 = .ok (.iload_n 1, 1) := by decide +kernel
theorem dX10_plantsValue_23 : decode cX10_plantsValue 23 = .ok (.iadd, 1) := by decide +kernel
theorem dX10_plantsValue_24 : decode cX10_plantsValue 24 = .ok (.iastore, 1) := by decide +kernel
theorem dX10_plantsValue_25 : decode cX10_plantsValue 25 = .ok (.aload_n 0, 1) := by decide +kernel
theorem dX10_plantsValue_26 : decode cX10_plantsValue 26 = .ok (.dup, 1) := by decide +kernel
theorem dX10_plantsValue_27 : decode cX10_plantsValue 27 = .ok (.getfield 275, 3) := by decide +kernel
theorem dX10_plantsValue_30 : decode cX10_plantsValue 30 = .ok (.iconst 2, 1) := by decide +kernel
theorem dX10_plantsValue_31 : decode cX10_plantsValue 31 = .ok (.iadd, 1) := by decide +kernel
theorem dX10_plantsValue_32 : decode cX10_plantsValue 32 = .ok (.putfield 275, 3) := by decide +kernel
theorem dX10_plantsValue_35 : decode cX10_plantsValue 35 = .ok (.return_, 1) := by decide +kernel
set_option maxHeartbeats 4000000 in
set_option maxRecDepth 100000 in
theorem c_X10_plantsValue (m : Nat) (it : Int32) (ho : Int32) (tp : Nat) (pl : Nat) (so : Nat → Int32) (de : Nat → Int32) (ri : Nat → Int32) (mu : Nat → Int32) (ra : Nat → Int32) (lk : Nat → Int32) (cd : Nat → Int32) (te : Nat → Int32) (tf : Nat → Int32) (tt : Nat → Int32) (pg : Nat → Int32) (h : Nat) {n : Nat} {kd : mK} {I : mI} {J : mJ} {P : mP} (hM : kM kd P m) (hp : tp + 1 < 1300) : Ct yX10_plantsValue cX10_plantsValue 2 none 1 0 0 [.ref m, .int (nI h)] n kd (gI m (it, ho, tp, pl, so, de, ri, mu, ra, lk, cd, te, tf, tt, pg) I) J P (am_is none n kd (gI m (pV h (it, ho, tp, pl, so, de, ri, mu, ra, lk, cd, te, tf, tt, pg)) I) J P) := by
  refine ct_of 0 (by decide +kernel) (Nat.le_of_ble_eq_true rfl) rfl ?_
  refine r_aload_n dX10_plantsValue_0 rfl ?_
  refine r_getR dX10_plantsValue_1 fl_X10_32 rfl (kM_0 hM) (pM_10 hM) ?_
  refine r_aload_n dX10_plantsValue_4 rfl ?_
  refine r_getI dX10_plantsValue_5 fl_X10_275 rfl (kM_0 hM) ?_
  rw [gI_tp]
  refine r_iconst (v := nI 2) dX10_plantsValue_8 (by decide) ?_
  refine r_iast dX10_plantsValue_9 (aM_10 hM) (nI_in8 1300 (by omega) (by decide)) (nI_clamp (by omega)) ?_
  rw [gI_acd, gI_wcd]
  refine r_aload_n dX10_plantsValue_10 rfl ?_
  refine r_getR dX10_plantsValue_11 fl_X10_32 rfl (kM_0 hM) (pM_10 hM) ?_
  refine r_aload_n dX10_plantsValue_14 rfl ?_
  refine r_getI dX10_plantsValue_15 fl_X10_275 rfl (kM_0 hM) ?_
  rw [gI_tp]
  refine r_iconst (v := nI 1) dX10_plantsValue_18 (by decide) ?_
  refine r_iadd dX10_plantsValue_19 ?_
  rw [nI_add]
  refine r_bipush (v := nI 14) dX10_plantsValue_20 (by decide) ?_
  refine r_iload_n dX10_plantsValue_22 rfl ?_
  refine r_iadd dX10_plantsValue_23 ?_
  rw [nI_add]
  refine r_iast dX10_plantsValue_24 (aM_10 hM) (nI_in8 1300 (by omega) (by decide)) (nI_clamp (by omega)) ?_
  rw [gI_acd, gI_wcd]
  refine r_aload_n dX10_plantsValue_25 rfl ?_
  refine r_dup dX10_plantsValue_26 rfl ?_
  refine r_getI dX10_plantsValue_27 fl_X10_275 rfl (kM_0 hM) ?_
  rw [gI_tp]
  refine r_iconst (v := nI 2) dX10_plantsValue_30 (by decide) ?_
  refine r_iadd dX10_plantsValue_31 ?_
  rw [nI_add]
  refine r_putI dX10_plantsValue_32 fl_X10_275 rfl rfl (kM_0 hM) ?_
  rw [gI_ptp]
  refine r_vret rfl dX10_plantsValue_35 ?_
  exact am_is.mk

set_option maxHeartbeats 4000000 in
set_option maxRecDepth 100000 in
theorem c_w (m : Nat) (q : PS) (c : Int32) {n : Nat} {kd : mK} {I : mI} {J : mJ} {P : mP} (hM : kM kd P m) (hp : pPl q < 1100) : Ct yX10_writes cX10_writes 2 none 1 0 0 [.ref m, .int c] n kd (gI m q I) J P (am_is none n kd (gI m (pW c q) I) J P) := by
  obtain ⟨it, ho, tp, pl, so, de, ri, mu, ra, lk, cd, te, tf, tt, pg⟩ := q
  exact c_X10_writes m it ho tp pl so de ri mu ra lk cd te tf tt pg c hM hp
set_option maxHeartbeats 4000000 in
set_option maxRecDepth 100000 in
theorem c_a (m : Nat) (q : PS) (c : Int32) {n : Nat} {kd : mK} {I : mI} {J : mJ} {P : mP} (hM : kM kd P m) (hp : pTp q < 1300) : Ct yX10_plantsAct cX10_plantsAct 2 none 1 0 0 [.ref m, .int c] n kd (gI m q I) J P (am_is none n kd (gI m (pA c q) I) J P) := by
  obtain ⟨it, ho, tp, pl, so, de, ri, mu, ra, lk, cd, te, tf, tt, pg⟩ := q
  exact c_X10_plantsAct m it ho tp pl so de ri mu ra lk cd te tf tt pg c hM hp
set_option maxHeartbeats 4000000 in
set_option maxRecDepth 100000 in
theorem c_v (m : Nat) (q : PS) (h : Nat) {n : Nat} {kd : mK} {I : mI} {J : mJ} {P : mP} (hM : kM kd P m) (hp : pTp q + 1 < 1300) : Ct yX10_plantsValue cX10_plantsValue 2 none 1 0 0 [.ref m, .int (nI h)] n kd (gI m q I) J P (am_is none n kd (gI m (pV h q) I) J P) := by
  obtain ⟨it, ho, tp, pl, so, de, ri, mu, ra, lk, cd, te, tf, tt, pg⟩ := q
  exact c_X10_plantsValue m it ho tp pl so de ri mu ra lk cd te tf tt pg h hM hp
set_option maxHeartbeats 4000000 in
set_option maxRecDepth 100000 in
theorem c_d (m : Nat) (q : PS) (k : Nat) {n : Nat} {kd : mK} {I : mI} {J : mJ} {P : mP} (hM : kM kd P m) (hk0 : 0 < k) (hk1 : k < 2 ^ 31) : Ct yX10_draw cX10_draw 2 (some .int) 1 0 0 [.ref m, .int (nI k)] n kd (gI m q I) J P (am_is (some (.int (nI (dv (lcg (pIt q)) % k)))) n kd (gI m (pD q) I) J P) := by
  obtain ⟨it, ho, tp, pl, so, de, ri, mu, ra, lk, cd, te, tf, tt, pg⟩ := q
  exact c_X10_draw m it ho tp pl so de ri mu ra lk cd te tf tt pg k hM hk0 hk1
theorem pW_pl (c : Int32) (q : PS) : pPl (pW c q) = pPl q + 1 ∧ pTp (pW c q) = pTp q ∧ pIt (pW c q) = pIt q := by
  obtain ⟨it, ho, tp, pl, so, de, ri, mu, ra, lk, cd, te, tf, tt, pg⟩ := q
  exact ⟨rfl, rfl, rfl⟩
theorem pWs_pl : ∀ (bs : List Int32) (q : PS), pPl (pWs bs q) = pPl q + bs.length ∧ pTp (pWs bs q) = pTp q ∧ pIt (pWs bs q) = pIt q
  | [], q => ⟨rfl, rfl, rfl⟩
  | c :: t, q => by
    have h1 := pWs_pl t (pW c q)
    have h2 := pW_pl c q
    refine ⟨?_, h1.2.1.trans h2.2.1, h1.2.2.trans h2.2.2⟩
    show pPl (pWs t (pW c q)) = _
    rw [h1.1, h2.1, List.length_cons]; omega
theorem pA_pl (c : Int32) (q : PS) : pPl (pA c q) = pPl q ∧ pTp (pA c q) = pTp q + 1 ∧ pIt (pA c q) = pIt q := by
  obtain ⟨it, ho, tp, pl, so, de, ri, mu, ra, lk, cd, te, tf, tt, pg⟩ := q
  exact ⟨rfl, rfl, rfl⟩
theorem pV_pl (h : Nat) (q : PS) : pPl (pV h q) = pPl q ∧ pTp (pV h q) = pTp q + 2 ∧ pIt (pV h q) = pIt q := by
  obtain ⟨it, ho, tp, pl, so, de, ri, mu, ra, lk, cd, te, tf, tt, pg⟩ := q
  exact ⟨rfl, rfl, rfl⟩
theorem pP_pl (h : Nat) (q : PS) : pPl (pP h q) = pPl q ∧ pTp (pP h q) = pTp q + 2 ∧ pIt (pP h q) = pIt q := by
  obtain ⟨it, ho, tp, pl, so, de, ri, mu, ra, lk, cd, te, tf, tt, pg⟩ := q
  exact ⟨rfl, rfl, rfl⟩
theorem pD_pl (q : PS) : pPl (pD q) = pPl q ∧ pTp (pD q) = pTp q ∧ pIt (pD q) = lcg (pIt q) := by
  obtain ⟨it, ho, tp, pl, so, de, ri, mu, ra, lk, cd, te, tf, tt, pg⟩ := q
  simp only [pD, pPl, pTp, pIt, and_self]
theorem pWs_app : ∀ (a b : List Int32) (q : PS), pWs (a ++ b) q = pWs b (pWs a q)
  | [], b, q => rfl
  | c :: t, b, q => pWs_app t b (pW c q)
theorem am_isL {x y : Int64} {n : Nat} {kd : mK} {I : mI} {J : mJ} {P : mP} (h : x = y) : am_is (some (.long y)) n kd I J P (.inl (some (.long x))) n kd I J P := by subst h; exact am_is.mk
theorem dX10_spelled_0 : decode cX10_spelled 0 = .ok (.iload_n 0, 1) := by decide +kernel
theorem dX10_spelled_1 : decode cX10_spelled 1 = .ok (.i2l, 1) := by decide +kernel
theorem dX10_spelled_2 : decode cX10_spelled 2 = .ok (.ldc2_w 239, 3) := by decide +kernel
theorem dX10_spelled_5 : decode cX10_spelled 5 = .ok (.lsub, 1) := by decide +kernel
theorem dX10_spelled_6 : decode cX10_spelled 6 = .ok (.iconst 5, 1) := by decide +kernel
theorem dX10_spelled_7 : decode cX10_spelled 7 = .ok (.lshl, 1) := by decide +kernel
theorem dX10_spelled_8 : decode cX10_spelled 8 = .ok (.iload_n 1, 1) := by decide +kernel
theorem dX10_spelled_9 : decode cX10_spelled 9 = .ok (.bipush 96, 2) := by decide +kernel
theorem dX10_spelled_11 : decode cX10_spelled 11 = .ok (.isub, 1) := by decide +kernel
theorem dX10_spelled_12 : decode cX10_spelled 12 = .ok (.i2l, 1) := by decide +kernel
theorem dX10_spelled_13 : decode cX10_spelled 13 = .ok (.lor, 1) := by decide +kernel
theorem dX10_spelled_14 : decode cX10_spelled 14 = .ok (.lstore 6, 2) := by decide +kernel
theorem dX10_spelled_16 : decode cX10_spelled 16 = .ok (.iload_n 2, 1) := by decide +kernel
theorem dX10_spelled_17 : decode cX10_spelled 17 = .ok (.ifCond .eq 15, 3) := by decide +kernel
theorem dX10_spelled_20 : decode cX10_spelled 20 = .ok (.lload 6, 2) := by decide +kernel
theorem dX10_spelled_22 : decode cX10_spelled 22 = .ok (.iconst 5, 1) := by decide +kernel
theorem dX10_spelled_23 : decode cX10_spelled 23 = .ok (.lshl, 1) := by decide +kernel
theorem dX10_spelled_24 : decode cX10_spelled 24 = .ok (.iload_n 2, 1) := by decide +kernel
theorem dX10_spelled_25 : decode cX10_spelled 25 = .ok (.bipush 96, 2) := by decide +kernel
theorem dX10_spelled_27 : decode cX10_spelled 27 = .ok (.isub, 1) := by decide +kernel
theorem dX10_spelled_28 : decode cX10_spelled 28 = .ok (.i2l, 1) := by decide +kernel
theorem dX10_spelled_29 : decode cX10_spelled 29 = .ok (.lor, 1) := by decide +kernel
theorem dX10_spelled_30 : decode cX10_spelled 30 = .ok (.lstore 6, 2) := by decide +kernel
theorem dX10_spelled_32 : decode cX10_spelled 32 = .ok (.iload_n 3, 1) := by decide +kernel
theorem dX10_spelled_33 : decode cX10_spelled 33 = .ok (.ifCond .eq 15, 3) := by decide +kernel
theorem dX10_spelled_36 : decode cX10_spelled 36 = .ok (.lload 6, 2) := by decide +kernel
theorem dX10_spelled_38 : decode cX10_spelled 38 = .ok (.iconst 5, 1) := by decide +kernel
theorem dX10_spelled_39 : decode cX10_spelled 39 = .ok (.lshl, 1) := by decide +kernel
theorem dX10_spelled_40 : decode cX10_spelled 40 = .ok (.iload_n 3, 1) := by decide +kernel
theorem dX10_spelled_41 : decode cX10_spelled 41 = .ok (.bipush 96, 2) := by decide +kernel
theorem dX10_spelled_43 : decode cX10_spelled 43 = .ok (.isub, 1) := by decide +kernel
theorem dX10_spelled_44 : decode cX10_spelled 44 = .ok (.i2l, 1) := by decide +kernel
theorem dX10_spelled_45 : decode cX10_spelled 45 = .ok (.lor, 1) := by decide +kernel
theorem dX10_spelled_46 : decode cX10_spelled 46 = .ok (.lstore 6, 2) := by decide +kernel
theorem dX10_spelled_48 : decode cX10_spelled 48 = .ok (.iload 4, 2) := by decide +kernel
theorem dX10_spelled_50 : decode cX10_spelled 50 = .ok (.ifCond .eq 16, 3) := by decide +kernel
theorem dX10_spelled_53 : decode cX10_spelled 53 = .ok (.lload 6, 2) := by decide +kernel
theorem dX10_spelled_55 : decode cX10_spelled 55 = .ok (.iconst 5, 1) := by decide +kernel
theorem dX10_spelled_56 : decode cX10_spelled 56 = .ok (.lshl, 1) := by decide +kernel
theorem dX10_spelled_57 : decode cX10_spelled 57 = .ok (.iload 4, 2) := by decide +kernel
theorem dX10_spelled_59 : decode cX10_spelled 59 = .ok (.bipush 96, 2) := by decide +kernel
theorem dX10_spelled_61 : decode cX10_spelled 61 = .ok (.isub, 1) := by decide +kernel
theorem dX10_spelled_62 : decode cX10_spelled 62 = .ok (.i2l, 1) := by decide +kernel
theorem dX10_spelled_63 : decode cX10_spelled 63 = .ok (.lor, 1) := by decide +kernel
theorem dX10_spelled_64 : decode cX10_spelled 64 = .ok (.lstore 6, 2) := by decide +kernel
theorem dX10_spelled_66 : decode cX10_spelled 66 = .ok (.iload 5, 2) := by decide +kernel
theorem dX10_spelled_68 : decode cX10_spelled 68 = .ok (.ifCond .eq 16, 3) := by decide +kernel
theorem dX10_spelled_71 : decode cX10_spelled 71 = .ok (.lload 6, 2) := by decide +kernel
theorem dX10_spelled_73 : decode cX10_spelled 73 = .ok (.iconst 5, 1) := by decide +kernel
theorem dX10_spelled_74 : decode cX10_spelled 74 = .ok (.lshl, 1) := by decide +kernel
theorem dX10_spelled_75 : decode cX10_spelled 75 = .ok (.iload 5, 2) := by decide +kernel
theorem dX10_spelled_77 : decode cX10_spelled 77 = .ok (.bipush 96, 2) := by decide +kernel
theorem dX10_spelled_79 : decode cX10_spelled 79 = .ok (.isub, 1) := by decide +kernel
theorem dX10_spelled_80 : decode cX10_spelled 80 = .ok (.i2l, 1) := by decide +kernel
theorem dX10_spelled_81 : decode cX10_spelled 81 = .ok (.lor, 1) := by decide +kernel
theorem dX10_spelled_82 : decode cX10_spelled 82 = .ok (.lstore 6, 2) := by decide +kernel
theorem dX10_spelled_84 : decode cX10_spelled 84 = .ok (.lload 6, 2) := by decide +kernel
theorem dX10_spelled_86 : decode cX10_spelled 86 = .ok (.lreturn, 1) := by decide +kernel

set_option maxHeartbeats 4000000 in
set_option maxRecDepth 100000 in
theorem c_spelled_0 {n : Nat} {kd : mK} {I : mI} {J : mJ} {P : mP} : Ct yX10_spelled cX10_spelled 8 (some .long) 1 0 0 [.int (nI 104), .int (nI 101), .int (nI 114), .int (nI 101), .int (nI 0), .int (nI 0)] n kd I J P (am_is (some (.long 267845)) n kd I J P) := by
  refine ct_of 2 (by decide +kernel) (Nat.le_of_ble_eq_true rfl) rfl ?_
  refine r_iload_n dX10_spelled_0 rfl ?_
  refine r_i2l dX10_spelled_1 ?_
  refine r_ldc2 dX10_spelled_2 lc_X10_239 ?_
  refine r_lsub dX10_spelled_5 ?_
  refine r_iconst (v := nI 5) dX10_spelled_6 (by decide) ?_
  refine r_lshl dX10_spelled_7 ?_
  refine r_iload_n dX10_spelled_8 rfl ?_
  refine r_bipush (v := nI 96) dX10_spelled_9 (by decide) ?_
  refine r_isub dX10_spelled_11 ?_
  refine r_i2l dX10_spelled_12 ?_
  refine r_lor dX10_spelled_13 ?_
  refine r_lstore dX10_spelled_14 (by decide) ?_
  refine r_iload_n dX10_spelled_16 rfl ?_
  refine r_if_eq (tgt := 32) dX10_spelled_17 (by decide) (fun hz => absurd hz (show ¬ _ from by decide)) (fun _ => ?_)
  refine r_lload dX10_spelled_20 rfl ?_
  refine r_iconst (v := nI 5) dX10_spelled_22 (by decide) ?_
  refine r_lshl dX10_spelled_23 ?_
  refine r_iload_n dX10_spelled_24 rfl ?_
  refine r_bipush (v := nI 96) dX10_spelled_25 (by decide) ?_
  refine r_isub dX10_spelled_27 ?_
  refine r_i2l dX10_spelled_28 ?_
  refine r_lor dX10_spelled_29 ?_
  refine r_lstore dX10_spelled_30 (by decide) ?_
  refine r_iload_n dX10_spelled_32 rfl ?_
  refine r_if_eq (tgt := 48) dX10_spelled_33 (by decide) (fun hz => absurd hz (show ¬ _ from by decide)) (fun _ => ?_)
  refine r_lload dX10_spelled_36 rfl ?_
  refine r_iconst (v := nI 5) dX10_spelled_38 (by decide) ?_
  refine r_lshl dX10_spelled_39 ?_
  refine r_iload_n dX10_spelled_40 rfl ?_
  refine r_bipush (v := nI 96) dX10_spelled_41 (by decide) ?_
  refine r_isub dX10_spelled_43 ?_
  refine r_i2l dX10_spelled_44 ?_
  refine r_lor dX10_spelled_45 ?_
  refine r_lstore dX10_spelled_46 (by decide) ?_
  refine r_iload dX10_spelled_48 rfl ?_
  refine r_if_eq (tgt := 66) dX10_spelled_50 (by decide) (fun _ => ?_) (fun hz => absurd (show _ from by decide) hz)
  refine r_iload dX10_spelled_66 rfl ?_
  refine r_if_eq (tgt := 84) dX10_spelled_68 (by decide) (fun _ => ?_) (fun hz => absurd (show _ from by decide) hz)
  refine r_lload dX10_spelled_84 rfl ?_
  refine r_lret rfl dX10_spelled_86 ?_
  exact am_isL (by decide +kernel)

set_option maxHeartbeats 4000000 in
set_option maxRecDepth 100000 in
theorem c_spelled_6 {n : Nat} {kd : mK} {I : mI} {J : mJ} {P : mP} : Ct yX10_spelled cX10_spelled 8 (some .long) 1 0 0 [.int (nI 111), .int (nI 102), .int (nI 0), .int (nI 0), .int (nI 0), .int (nI 0)] n kd I J P (am_is (some (.long 486)) n kd I J P) := by
  refine ct_of 2 (by decide +kernel) (Nat.le_of_ble_eq_true rfl) rfl ?_
  refine r_iload_n dX10_spelled_0 rfl ?_
  refine r_i2l dX10_spelled_1 ?_
  refine r_ldc2 dX10_spelled_2 lc_X10_239 ?_
  refine r_lsub dX10_spelled_5 ?_
  refine r_iconst (v := nI 5) dX10_spelled_6 (by decide) ?_
  refine r_lshl dX10_spelled_7 ?_
  refine r_iload_n dX10_spelled_8 rfl ?_
  refine r_bipush (v := nI 96) dX10_spelled_9 (by decide) ?_
  refine r_isub dX10_spelled_11 ?_
  refine r_i2l dX10_spelled_12 ?_
  refine r_lor dX10_spelled_13 ?_
  refine r_lstore dX10_spelled_14 (by decide) ?_
  refine r_iload_n dX10_spelled_16 rfl ?_
  refine r_if_eq (tgt := 32) dX10_spelled_17 (by decide) (fun _ => ?_) (fun hz => absurd (show _ from by decide) hz)
  refine r_iload_n dX10_spelled_32 rfl ?_
  refine r_if_eq (tgt := 48) dX10_spelled_33 (by decide) (fun _ => ?_) (fun hz => absurd (show _ from by decide) hz)
  refine r_iload dX10_spelled_48 rfl ?_
  refine r_if_eq (tgt := 66) dX10_spelled_50 (by decide) (fun _ => ?_) (fun hz => absurd (show _ from by decide) hz)
  refine r_iload dX10_spelled_66 rfl ?_
  refine r_if_eq (tgt := 84) dX10_spelled_68 (by decide) (fun _ => ?_) (fun hz => absurd (show _ from by decide) hz)
  refine r_lload dX10_spelled_84 rfl ?_
  refine r_lret rfl dX10_spelled_86 ?_
  exact am_isL (by decide +kernel)

set_option maxHeartbeats 4000000 in
set_option maxRecDepth 100000 in
theorem c_spelled_12 {n : Nat} {kd : mK} {I : mI} {J : mJ} {P : mP} : Ct yX10_spelled cX10_spelled 8 (some .long) 1 0 0 [.int (nI 110), .int (nI 111), .int (nI 116), .int (nI 0), .int (nI 0), .int (nI 0)] n kd I J P (am_is (some (.long 14836)) n kd I J P) := by
  refine ct_of 2 (by decide +kernel) (Nat.le_of_ble_eq_true rfl) rfl ?_
  refine r_iload_n dX10_spelled_0 rfl ?_
  refine r_i2l dX10_spelled_1 ?_
  refine r_ldc2 dX10_spelled_2 lc_X10_239 ?_
  refine r_lsub dX10_spelled_5 ?_
  refine r_iconst (v := nI 5) dX10_spelled_6 (by decide) ?_
  refine r_lshl dX10_spelled_7 ?_
  refine r_iload_n dX10_spelled_8 rfl ?_
  refine r_bipush (v := nI 96) dX10_spelled_9 (by decide) ?_
  refine r_isub dX10_spelled_11 ?_
  refine r_i2l dX10_spelled_12 ?_
  refine r_lor dX10_spelled_13 ?_
  refine r_lstore dX10_spelled_14 (by decide) ?_
  refine r_iload_n dX10_spelled_16 rfl ?_
  refine r_if_eq (tgt := 32) dX10_spelled_17 (by decide) (fun hz => absurd hz (show ¬ _ from by decide)) (fun _ => ?_)
  refine r_lload dX10_spelled_20 rfl ?_
  refine r_iconst (v := nI 5) dX10_spelled_22 (by decide) ?_
  refine r_lshl dX10_spelled_23 ?_
  refine r_iload_n dX10_spelled_24 rfl ?_
  refine r_bipush (v := nI 96) dX10_spelled_25 (by decide) ?_
  refine r_isub dX10_spelled_27 ?_
  refine r_i2l dX10_spelled_28 ?_
  refine r_lor dX10_spelled_29 ?_
  refine r_lstore dX10_spelled_30 (by decide) ?_
  refine r_iload_n dX10_spelled_32 rfl ?_
  refine r_if_eq (tgt := 48) dX10_spelled_33 (by decide) (fun _ => ?_) (fun hz => absurd (show _ from by decide) hz)
  refine r_iload dX10_spelled_48 rfl ?_
  refine r_if_eq (tgt := 66) dX10_spelled_50 (by decide) (fun _ => ?_) (fun hz => absurd (show _ from by decide) hz)
  refine r_iload dX10_spelled_66 rfl ?_
  refine r_if_eq (tgt := 84) dX10_spelled_68 (by decide) (fun _ => ?_) (fun hz => absurd (show _ from by decide) hz)
  refine r_lload dX10_spelled_84 rfl ?_
  refine r_lret rfl dX10_spelled_86 ?_
  exact am_isL (by decide +kernel)

theorem dX10_letters_0 : decode cX10_letters 0 = .ok (.iload_n 0, 1) := by decide +kernel
theorem dX10_letters_1 : decode cX10_letters 1 = .ok (.tableswitch 233 0 11 #[63, 77, 93, 108, 122, 137, 151, 163, 179, 194, 208, 221], 63) := by decide +kernel
theorem dX10_letters_64 : decode cX10_letters 64 = .ok (.bipush 104, 2) := by decide +kernel
theorem dX10_letters_66 : decode cX10_letters 66 = .ok (.bipush 101, 2) := by decide +kernel
theorem dX10_letters_68 : decode cX10_letters 68 = .ok (.bipush 114, 2) := by decide +kernel
theorem dX10_letters_70 : decode cX10_letters 70 = .ok (.bipush 101, 2) := by decide +kernel
theorem dX10_letters_72 : decode cX10_letters 72 = .ok (.iconst 0, 1) := by decide +kernel
theorem dX10_letters_73 : decode cX10_letters 73 = .ok (.iconst 0, 1) := by decide +kernel
theorem dX10_letters_74 : decode cX10_letters 74 = .ok (.invokestatic 241, 3) := by decide +kernel
theorem dX10_letters_77 : decode cX10_letters 77 = .ok (.lreturn, 1) := by decide +kernel
theorem dX10_letters_78 : decode cX10_letters 78 = .ok (.bipush 98, 2) := by decide +kernel
theorem dX10_letters_80 : decode cX10_letters 80 = .ok (.bipush 101, 2) := by decide +kernel
theorem dX10_letters_82 : decode cX10_letters 82 = .ok (.bipush 102, 2) := by decide +kernel
theorem dX10_letters_84 : decode cX10_letters 84 = .ok (.bipush 111, 2) := by decide +kernel
theorem dX10_letters_86 : decode cX10_letters 86 = .ok (.bipush 114, 2) := by decide +kernel
theorem dX10_letters_88 : decode cX10_letters 88 = .ok (.bipush 101, 2) := by decide +kernel
theorem dX10_letters_90 : decode cX10_letters 90 = .ok (.invokestatic 241, 3) := by decide +kernel
theorem dX10_letters_93 : decode cX10_letters 93 = .ok (.lreturn, 1) := by decide +kernel
theorem dX10_letters_94 : decode cX10_letters 94 = .ok (.bipush 97, 2) := by decide +kernel
theorem dX10_letters_96 : decode cX10_letters 96 = .ok (.bipush 102, 2) := by decide +kernel
theorem dX10_letters_98 : decode cX10_letters 98 = .ok (.bipush 116, 2) := by decide +kernel
theorem dX10_letters_100 : decode cX10_letters 100 = .ok (.bipush 101, 2) := by decide +kernel
theorem dX10_letters_102 : decode cX10_letters 102 = .ok (.bipush 114, 2) := by decide +kernel
theorem dX10_letters_104 : decode cX10_letters 104 = .ok (.iconst 0, 1) := by decide +kernel
theorem dX10_letters_105 : decode cX10_letters 105 = .ok (.invokestatic 241, 3) := by decide +kernel
theorem dX10_letters_108 : decode cX10_letters 108 = .ok (.lreturn, 1) := by decide +kernel
theorem dX10_letters_109 : decode cX10_letters 109 = .ok (.bipush 115, 2) := by decide +kernel
theorem dX10_letters_111 : decode cX10_letters 111 = .ok (.bipush 111, 2) := by decide +kernel
theorem dX10_letters_113 : decode cX10_letters 113 = .ok (.bipush 110, 2) := by decide +kernel
theorem dX10_letters_115 : decode cX10_letters 115 = .ok (.bipush 115, 2) := by decide +kernel
theorem dX10_letters_117 : decode cX10_letters 117 = .ok (.iconst 0, 1) := by decide +kernel
theorem dX10_letters_118 : decode cX10_letters 118 = .ok (.iconst 0, 1) := by decide +kernel
theorem dX10_letters_119 : decode cX10_letters 119 = .ok (.invokestatic 241, 3) := by decide +kernel
theorem dX10_letters_122 : decode cX10_letters 122 = .ok (.lreturn, 1) := by decide +kernel
theorem dX10_letters_123 : decode cX10_letters 123 = .ok (.bipush 100, 2) := by decide +kernel
theorem dX10_letters_125 : decode cX10_letters 125 = .ok (.bipush 101, 2) := by decide +kernel
theorem dX10_letters_127 : decode cX10_letters 127 = .ok (.bipush 98, 2) := by decide +kernel
theorem dX10_letters_129 : decode cX10_letters 129 = .ok (.bipush 116, 2) := by decide +kernel
theorem dX10_letters_131 : decode cX10_letters 131 = .ok (.bipush 115, 2) := by decide +kernel
theorem dX10_letters_133 : decode cX10_letters 133 = .ok (.iconst 0, 1) := by decide +kernel
theorem dX10_letters_134 : decode cX10_letters 134 = .ok (.invokestatic 241, 3) := by decide +kernel
theorem dX10_letters_137 : decode cX10_letters 137 = .ok (.lreturn, 1) := by decide +kernel
theorem dX10_letters_138 : decode cX10_letters 138 = .ok (.bipush 109, 2) := by decide +kernel
theorem dX10_letters_140 : decode cX10_letters 140 = .ok (.bipush 111, 2) := by decide +kernel
theorem dX10_letters_142 : decode cX10_letters 142 = .ok (.bipush 115, 2) := by decide +kernel
theorem dX10_letters_144 : decode cX10_letters 144 = .ok (.bipush 116, 2) := by decide +kernel
theorem dX10_letters_146 : decode cX10_letters 146 = .ok (.iconst 0, 1) := by decide +kernel
theorem dX10_letters_147 : decode cX10_letters 147 = .ok (.iconst 0, 1) := by decide +kernel
theorem dX10_letters_148 : decode cX10_letters 148 = .ok (.invokestatic 241, 3) := by decide +kernel
theorem dX10_letters_151 : decode cX10_letters 151 = .ok (.lreturn, 1) := by decide +kernel
theorem dX10_letters_152 : decode cX10_letters 152 = .ok (.bipush 111, 2) := by decide +kernel
theorem dX10_letters_154 : decode cX10_letters 154 = .ok (.bipush 102, 2) := by decide +kernel
theorem dX10_letters_156 : decode cX10_letters 156 = .ok (.iconst 0, 1) := by decide +kernel
theorem dX10_letters_157 : decode cX10_letters 157 = .ok (.iconst 0, 1) := by decide +kernel
theorem dX10_letters_158 : decode cX10_letters 158 = .ok (.iconst 0, 1) := by decide +kernel
theorem dX10_letters_159 : decode cX10_letters 159 = .ok (.iconst 0, 1) := by decide +kernel
theorem dX10_letters_160 : decode cX10_letters 160 = .ok (.invokestatic 241, 3) := by decide +kernel
theorem dX10_letters_163 : decode cX10_letters 163 = .ok (.lreturn, 1) := by decide +kernel
theorem dX10_letters_164 : decode cX10_letters 164 = .ok (.bipush 117, 2) := by decide +kernel
theorem dX10_letters_166 : decode cX10_letters 166 = .ok (.bipush 110, 2) := by decide +kernel
theorem dX10_letters_168 : decode cX10_letters 168 = .ok (.bipush 108, 2) := by decide +kernel
theorem dX10_letters_170 : decode cX10_letters 170 = .ok (.bipush 105, 2) := by decide +kernel
theorem dX10_letters_172 : decode cX10_letters 172 = .ok (.bipush 107, 2) := by decide +kernel
theorem dX10_letters_174 : decode cX10_letters 174 = .ok (.bipush 101, 2) := by decide +kernel
theorem dX10_letters_176 : decode cX10_letters 176 = .ok (.invokestatic 241, 3) := by decide +kernel
theorem dX10_letters_179 : decode cX10_letters 179 = .ok (.lreturn, 1) := by decide +kernel
theorem dX10_letters_180 : decode cX10_letters 180 = .ok (.bipush 104, 2) := by decide +kernel
theorem dX10_letters_182 : decode cX10_letters 182 = .ok (.bipush 111, 2) := by decide +kernel
theorem dX10_letters_184 : decode cX10_letters 184 = .ok (.bipush 117, 2) := by decide +kernel
theorem dX10_letters_186 : decode cX10_letters 186 = .ok (.bipush 115, 2) := by decide +kernel
theorem dX10_letters_188 : decode cX10_letters 188 = .ok (.bipush 101, 2) := by decide +kernel
theorem dX10_letters_190 : decode cX10_letters 190 = .ok (.iconst 0, 1) := by decide +kernel
theorem dX10_letters_191 : decode cX10_letters 191 = .ok (.invokestatic 241, 3) := by decide +kernel
theorem dX10_letters_194 : decode cX10_letters 194 = .ok (.lreturn, 1) := by decide +kernel
theorem dX10_letters_195 : decode cX10_letters 195 = .ok (.bipush 115, 2) := by decide +kernel
theorem dX10_letters_197 : decode cX10_letters 197 = .ok (.bipush 97, 2) := by decide +kernel
theorem dX10_letters_199 : decode cX10_letters 199 = .ok (.bipush 121, 2) := by decide +kernel
theorem dX10_letters_201 : decode cX10_letters 201 = .ok (.bipush 115, 2) := by decide +kernel
theorem dX10_letters_203 : decode cX10_letters 203 = .ok (.iconst 0, 1) := by decide +kernel
theorem dX10_letters_204 : decode cX10_letters 204 = .ok (.iconst 0, 1) := by decide +kernel
theorem dX10_letters_205 : decode cX10_letters 205 = .ok (.invokestatic 241, 3) := by decide +kernel
theorem dX10_letters_208 : decode cX10_letters 208 = .ok (.lreturn, 1) := by decide +kernel
theorem dX10_letters_209 : decode cX10_letters 209 = .ok (.bipush 97, 2) := by decide +kernel
theorem dX10_letters_211 : decode cX10_letters 211 = .ok (.bipush 110, 2) := by decide +kernel
theorem dX10_letters_213 : decode cX10_letters 213 = .ok (.bipush 100, 2) := by decide +kernel
theorem dX10_letters_215 : decode cX10_letters 215 = .ok (.iconst 0, 1) := by decide +kernel
theorem dX10_letters_216 : decode cX10_letters 216 = .ok (.iconst 0, 1) := by decide +kernel
theorem dX10_letters_217 : decode cX10_letters 217 = .ok (.iconst 0, 1) := by decide +kernel
theorem dX10_letters_218 : decode cX10_letters 218 = .ok (.invokestatic 241, 3) := by decide +kernel
theorem dX10_letters_221 : decode cX10_letters 221 = .ok (.lreturn, 1) := by decide +kernel
theorem dX10_letters_222 : decode cX10_letters 222 = .ok (.bipush 111, 2) := by decide +kernel
theorem dX10_letters_224 : decode cX10_letters 224 = .ok (.bipush 114, 2) := by decide +kernel
theorem dX10_letters_226 : decode cX10_letters 226 = .ok (.iconst 0, 1) := by decide +kernel
theorem dX10_letters_227 : decode cX10_letters 227 = .ok (.iconst 0, 1) := by decide +kernel
theorem dX10_letters_228 : decode cX10_letters 228 = .ok (.iconst 0, 1) := by decide +kernel
theorem dX10_letters_229 : decode cX10_letters 229 = .ok (.iconst 0, 1) := by decide +kernel
theorem dX10_letters_230 : decode cX10_letters 230 = .ok (.invokestatic 241, 3) := by decide +kernel
theorem dX10_letters_233 : decode cX10_letters 233 = .ok (.lreturn, 1) := by decide +kernel
theorem dX10_letters_234 : decode cX10_letters 234 = .ok (.bipush 110, 2) := by decide +kernel
theorem dX10_letters_236 : decode cX10_letters 236 = .ok (.bipush 111, 2) := by decide +kernel
theorem dX10_letters_238 : decode cX10_letters 238 = .ok (.bipush 116, 2) := by decide +kernel
theorem dX10_letters_240 : decode cX10_letters 240 = .ok (.iconst 0, 1) := by decide +kernel
theorem dX10_letters_241 : decode cX10_letters 241 = .ok (.iconst 0, 1) := by decide +kernel
theorem dX10_letters_242 : decode cX10_letters 242 = .ok (.iconst 0, 1) := by decide +kernel
theorem dX10_letters_243 : decode cX10_letters 243 = .ok (.invokestatic 241, 3) := by decide +kernel
theorem dX10_letters_246 : decode cX10_letters 246 = .ok (.lreturn, 1) := by decide +kernel

set_option maxHeartbeats 4000000 in
set_option maxRecDepth 100000 in
theorem c_letters_0 {n : Nat} {kd : mK} {I : mI} {J : mJ} {P : mP} : Ct yX10_letters cX10_letters 1 (some .long) 2 0 0 [.int (nI 0)] n kd I J P (am_is (some (.long 267845)) n kd I J P) := by
  refine ct_of 0 (by decide +kernel) (Nat.le_of_ble_eq_true rfl) rfl ?_
  refine r_iload_n dX10_letters_0 rfl ?_
  refine r_tabE (off := 63) (tgt := 64) rfl dX10_letters_1 (by decide) (by decide) (by decide) (by decide) ?_
  refine r_bipush (v := nI 104) dX10_letters_64 (by decide) ?_
  refine r_bipush (v := nI 101) dX10_letters_66 (by decide) ?_
  refine r_bipush (v := nI 114) dX10_letters_68 (by decide) ?_
  refine r_bipush (v := nI 101) dX10_letters_70 (by decide) ?_
  refine r_iconst (v := nI 0) dX10_letters_72 (by decide) ?_
  refine r_iconst (v := nI 0) dX10_letters_73 (by decide) ?_
  refine r_statE (c_spelled_0) lk_X10_241 mc_X10_spelled dX10_letters_74 (by decide) rfl rfl (Nat.le_of_ble_eq_true rfl) ?_
  refine r_lret rfl dX10_letters_77 ?_
  exact am_is.mk

set_option maxHeartbeats 4000000 in
set_option maxRecDepth 100000 in
theorem c_letters_6 {n : Nat} {kd : mK} {I : mI} {J : mJ} {P : mP} : Ct yX10_letters cX10_letters 1 (some .long) 2 0 0 [.int (nI 6)] n kd I J P (am_is (some (.long 486)) n kd I J P) := by
  refine ct_of 0 (by decide +kernel) (Nat.le_of_ble_eq_true rfl) rfl ?_
  refine r_iload_n dX10_letters_0 rfl ?_
  refine r_tabE (off := 151) (tgt := 152) rfl dX10_letters_1 (by decide) (by decide) (by decide) (by decide) ?_
  refine r_bipush (v := nI 111) dX10_letters_152 (by decide) ?_
  refine r_bipush (v := nI 102) dX10_letters_154 (by decide) ?_
  refine r_iconst (v := nI 0) dX10_letters_156 (by decide) ?_
  refine r_iconst (v := nI 0) dX10_letters_157 (by decide) ?_
  refine r_iconst (v := nI 0) dX10_letters_158 (by decide) ?_
  refine r_iconst (v := nI 0) dX10_letters_159 (by decide) ?_
  refine r_statE (c_spelled_6) lk_X10_241 mc_X10_spelled dX10_letters_160 (by decide) rfl rfl (Nat.le_of_ble_eq_true rfl) ?_
  refine r_lret rfl dX10_letters_163 ?_
  exact am_is.mk

set_option maxHeartbeats 4000000 in
set_option maxRecDepth 100000 in
theorem c_letters_12 {n : Nat} {kd : mK} {I : mI} {J : mJ} {P : mP} : Ct yX10_letters cX10_letters 1 (some .long) 2 0 0 [.int (nI 12)] n kd I J P (am_is (some (.long 14836)) n kd I J P) := by
  refine ct_of 0 (by decide +kernel) (Nat.le_of_ble_eq_true rfl) rfl ?_
  refine r_iload_n dX10_letters_0 rfl ?_
  refine r_tabOut (tgt := 234) dX10_letters_1 (by decide) (by decide) ?_
  refine r_bipush (v := nI 110) dX10_letters_234 (by decide) ?_
  refine r_bipush (v := nI 111) dX10_letters_236 (by decide) ?_
  refine r_bipush (v := nI 116) dX10_letters_238 (by decide) ?_
  refine r_iconst (v := nI 0) dX10_letters_240 (by decide) ?_
  refine r_iconst (v := nI 0) dX10_letters_241 (by decide) ?_
  refine r_iconst (v := nI 0) dX10_letters_242 (by decide) ?_
  refine r_statE (c_spelled_12) lk_X10_241 mc_X10_spelled dX10_letters_243 (by decide) rfl rfl (Nat.le_of_ble_eq_true rfl) ?_
  refine r_lret rfl dX10_letters_246 ?_
  exact am_is.mk

theorem dX10_writesWord_0 : decode cX10_writesWord 0 = .ok (.iload_n 1, 1) := by decide +kernel
theorem dX10_writesWord_1 : decode cX10_writesWord 1 = .ok (.invokestatic 245, 3) := by decide +kernel
theorem dX10_writesWord_4 : decode cX10_writesWord 4 = .ok (.lstore_n 2, 1) := by decide +kernel
theorem dX10_writesWord_5 : decode cX10_writesWord 5 = .ok (.iconst 0, 1) := by decide +kernel
theorem dX10_writesWord_6 : decode cX10_writesWord 6 = .ok (.istore 4, 2) := by decide +kernel
theorem dX10_writesWord_8 : decode cX10_writesWord 8 = .ok (.lload_n 2, 1) := by decide +kernel
theorem dX10_writesWord_9 : decode cX10_writesWord 9 = .ok (.iconst 5, 1) := by decide +kernel
theorem dX10_writesWord_10 : decode cX10_writesWord 10 = .ok (.iload 4, 2) := by decide +kernel
theorem dX10_writesWord_12 : decode cX10_writesWord 12 = .ok (.imul, 1) := by decide +kernel
theorem dX10_writesWord_13 : decode cX10_writesWord 13 = .ok (.lshr, 1) := by decide +kernel
theorem dX10_writesWord_14 : decode cX10_writesWord 14 = .ok (.lconst 0, 1) := by decide +kernel
theorem dX10_writesWord_15 : decode cX10_writesWord 15 = .ok (.lcmp, 1) := by decide +kernel
theorem dX10_writesWord_16 : decode cX10_writesWord 16 = .ok (.ifCond .le 9, 3) := by decide +kernel
theorem dX10_writesWord_19 : decode cX10_writesWord 19 = .ok (.iinc 4 1, 3) := by decide +kernel
theorem dX10_writesWord_22 : decode cX10_writesWord 22 = .ok (.goto (-14), 3) := by decide +kernel
theorem dX10_writesWord_25 : decode cX10_writesWord 25 = .ok (.iload 4, 2) := by decide +kernel
theorem dX10_writesWord_27 : decode cX10_writesWord 27 = .ok (.iconst 1, 1) := by decide +kernel
theorem dX10_writesWord_28 : decode cX10_writesWord 28 = .ok (.isub, 1) := by decide +kernel
theorem dX10_writesWord_29 : decode cX10_writesWord 29 = .ok (.istore 5, 2) := by decide +kernel
theorem dX10_writesWord_31 : decode cX10_writesWord 31 = .ok (.iload 5, 2) := by decide +kernel
theorem dX10_writesWord_33 : decode cX10_writesWord 33 = .ok (.ifCond .lt 27, 3) := by decide +kernel
theorem dX10_writesWord_36 : decode cX10_writesWord 36 = .ok (.aload_n 0, 1) := by decide +kernel
theorem dX10_writesWord_37 : decode cX10_writesWord 37 = .ok (.lload_n 2, 1) := by decide +kernel
theorem dX10_writesWord_38 : decode cX10_writesWord 38 = .ok (.iconst 5, 1) := by decide +kernel
theorem dX10_writesWord_39 : decode cX10_writesWord 39 = .ok (.iload 5, 2) := by decide +kernel
theorem dX10_writesWord_41 : decode cX10_writesWord 41 = .ok (.imul, 1) := by decide +kernel
theorem dX10_writesWord_42 : decode cX10_writesWord 42 = .ok (.lshr, 1) := by decide +kernel
theorem dX10_writesWord_43 : decode cX10_writesWord 43 = .ok (.ldc2_w 408, 3) := by decide +kernel
theorem dX10_writesWord_46 : decode cX10_writesWord 46 = .ok (.land, 1) := by decide +kernel
theorem dX10_writesWord_47 : decode cX10_writesWord 47 = .ok (.l2i, 1) := by decide +kernel
theorem dX10_writesWord_48 : decode cX10_writesWord 48 = .ok (.bipush 96, 2) := by decide +kernel
theorem dX10_writesWord_50 : decode cX10_writesWord 50 = .ok (.iadd, 1) := by decide +kernel
theorem dX10_writesWord_51 : decode cX10_writesWord 51 = .ok (.invokevirtual 508, 3) := by decide +kernel
theorem dX10_writesWord_54 : decode cX10_writesWord 54 = .ok (.iinc 5 (-1), 3) := by decide +kernel
theorem dX10_writesWord_57 : decode cX10_writesWord 57 = .ok (.goto (-26), 3) := by decide +kernel
theorem dX10_writesWord_60 : decode cX10_writesWord 60 = .ok (.return_, 1) := by decide +kernel

def wOk (v : Int64) (L : Nat) (ws : List Int32) : Prop := (∀ n, n < L → ¬ lg_cmp (v >>> ((nI 5 * nI n).toInt64 &&& 63)) 0 ≤ 0) ∧ lg_cmp (v >>> ((nI 5 * nI L).toInt64 &&& 63)) 0 ≤ 0 ∧ (∀ k, k < L → ((v >>> ((nI 5 * nI k).toInt64 &&& 63)) &&& 31).toInt32 + nI 96 = ws.getD (L - 1 - k) 0) ∧ ws.length = L ∧ 0 < L ∧ L ≤ 6
theorem drop_cons {ws : List Int32} {i : Nat} (h : i < ws.length) : ws.drop i = ws.getD i 0 :: ws.drop (i + 1) := by
  rw [List.drop_eq_getElem_cons h]
  simp [List.getD, List.getElem?_eq_getElem h]
theorem drop_last {ws : List Int32} {i : Nat} (h : i + 1 = ws.length) : ws.drop i = [ws.getD i 0] := by
  rw [drop_cons (by omega), h, List.drop_length]
set_option maxHeartbeats 4000000 in
set_option maxRecDepth 100000 in
theorem wb_X10_writesWord (m L : Nat) (w : Int32) (v : Int64) (ws : List Int32) {n : Nat} {kd : mK} {I : mI} {J : mJ} {P : mP} (hM : kM kd P m) (hw : wOk v L ws) : ∀ (k : Nat) (q : PS), k < L → pPl q + (k + 1) < 1100 → Ru yX10_writesWord.cls cX10_writesWord 6 none yX10_writesWord.name 3 (am_is none n kd (gI m (pWs (ws.drop (L - 1 - k)) q) I) J P) 0 0 31 [some (.ref m), some (.int w), some (.long v), none, some (.int (nI L)), some (.int (nI k))] [] n kd (gI m q I) J P := by
  obtain ⟨w1, w2, w3, w4, w5, w6⟩ := hw
  intro k
  induction k with
  | zero =>
    intro q hk hp
    have hd : ws.drop (L - 1 - 0) = [ws.getD (L - 1 - 0) 0] := drop_last (by omega)
    rw [hd]
    refine r_iload dX10_writesWord_31 rfl ?_
    refine r_if_lt (tgt := 60) dX10_writesWord_33 (by decide) (fun hz => absurd hz (show ¬ _ from (z_nlt (by omega)))) (fun _ => ?_)
    refine r_aload_n dX10_writesWord_36 rfl ?_
    refine r_lload_n dX10_writesWord_37 rfl ?_
    refine r_iconst (v := nI 5) dX10_writesWord_38 (by decide) ?_
    refine r_iload dX10_writesWord_39 rfl ?_
    refine r_imul dX10_writesWord_41 ?_
    refine r_lshr dX10_writesWord_42 ?_
    refine r_ldc2 dX10_writesWord_43 lc_X10_408 ?_
    refine r_land dX10_writesWord_46 ?_
    refine r_l2i dX10_writesWord_47 ?_
    refine r_bipush (v := nI 96) dX10_writesWord_48 (by decide) ?_
    refine r_iadd dX10_writesWord_50 ?_
    rw [w3 0 (by omega)]
    refine r_virtV (c_w m q (ws.getD (L - 1 - 0) 0) hM (by omega)) lk_X10_508 mc_X10_writes dX10_writesWord_51 (kM_0 hM) (by decide) rfl rfl (Nat.le_of_ble_eq_true rfl) ?_
    refine r_iinc (v := -1) dX10_writesWord_54 rfl (by decide) ?_
    refine r_goto (tgt := 31) dX10_writesWord_57 (by decide) ?_
    refine r_iload dX10_writesWord_31 rfl ?_
    refine r_if_lt (tgt := 60) dX10_writesWord_33 (by decide) (fun _ => ?_) (fun hz => absurd (show _ from by decide) hz)
    refine r_vret rfl dX10_writesWord_60 ?_
    exact am_is.mk
  | succ k ih =>
    intro q hk hp
    have hd : ws.drop (L - 1 - (k + 1)) = ws.getD (L - 1 - (k + 1)) 0 :: ws.drop (L - 1 - k) := by
      rw [show L - 1 - k = (L - 1 - (k + 1)) + 1 by omega]
      exact drop_cons (by omega)
    rw [hd]
    refine r_iload dX10_writesWord_31 rfl ?_
    refine r_if_lt (tgt := 60) dX10_writesWord_33 (by decide) (fun hz => absurd hz (show ¬ _ from (z_nlt (by omega)))) (fun _ => ?_)
    refine r_aload_n dX10_writesWord_36 rfl ?_
    refine r_lload_n dX10_writesWord_37 rfl ?_
    refine r_iconst (v := nI 5) dX10_writesWord_38 (by decide) ?_
    refine r_iload dX10_writesWord_39 rfl ?_
    refine r_imul dX10_writesWord_41 ?_
    refine r_lshr dX10_writesWord_42 ?_
    refine r_ldc2 dX10_writesWord_43 lc_X10_408 ?_
    refine r_land dX10_writesWord_46 ?_
    refine r_l2i dX10_writesWord_47 ?_
    refine r_bipush (v := nI 96) dX10_writesWord_48 (by decide) ?_
    refine r_iadd dX10_writesWord_50 ?_
    rw [w3 (k + 1) (by omega)]
    refine r_virtV (c_w m q (ws.getD (L - 1 - (k + 1)) 0) hM (by omega)) lk_X10_508 mc_X10_writes dX10_writesWord_51 (kM_0 hM) (by decide) rfl rfl (Nat.le_of_ble_eq_true rfl) ?_
    refine r_iinc (v := nI k) dX10_writesWord_54 rfl (nI_dec k) ?_
    refine r_goto (tgt := 31) dX10_writesWord_57 (by decide) ?_
    exact ih (pW (ws.getD (L - 1 - (k + 1)) 0) q) (by omega) (by rw [(pW_pl _ _).1]; omega)

set_option maxHeartbeats 4000000 in
set_option maxRecDepth 100000 in
theorem wa_X10_writesWord (m L : Nat) (w : Int32) (v : Int64) (ws : List Int32) (q : PS) {n : Nat} {kd : mK} {I : mI} {J : mJ} {P : mP} (hM : kM kd P m) (hw : wOk v L ws) (hp : pPl q + L < 1100) : ∀ (k i : Nat), i + k = L → Ru yX10_writesWord.cls cX10_writesWord 6 none yX10_writesWord.name 3 (am_is none n kd (gI m (pWs ws q) I) J P) 0 0 8 [some (.ref m), some (.int w), some (.long v), none, some (.int (nI i)), none] [] n kd (gI m q I) J P := by
  have hw0 := hw
  obtain ⟨w1, w2, w3, w4, w5, w6⟩ := hw
  intro k
  induction k with
  | zero =>
    intro i hi
    have hi : i = L := by omega
    subst hi
    refine r_lload_n dX10_writesWord_8 rfl ?_
    refine r_iconst (v := nI 5) dX10_writesWord_9 (by decide) ?_
    refine r_iload dX10_writesWord_10 rfl ?_
    refine r_imul dX10_writesWord_12 ?_
    refine r_lshr dX10_writesWord_13 ?_
    refine r_lconst (v := 0) dX10_writesWord_14 (by decide) ?_
    refine r_lcmp dX10_writesWord_15 ?_
    refine r_if_le (tgt := 25) dX10_writesWord_16 (by decide) (fun _ => ?_) (fun hz => absurd (show _ from w2) hz)
    refine r_iload dX10_writesWord_25 rfl ?_
    refine r_iconst (v := nI 1) dX10_writesWord_27 (by decide) ?_
    refine r_isub dX10_writesWord_28 ?_
    rw [pk_sub (by omega)]
    refine r_istore dX10_writesWord_29 (by decide) ?_
    have hn := wb_X10_writesWord (n := n) (I := I) (J := J) m i w v ws hM hw0 (i - 1) q (by omega) (by omega)
    rw [show i - 1 - (i - 1) = 0 by omega, List.drop_zero] at hn
    exact hn
  | succ k ih =>
    intro i hi
    refine r_lload_n dX10_writesWord_8 rfl ?_
    refine r_iconst (v := nI 5) dX10_writesWord_9 (by decide) ?_
    refine r_iload dX10_writesWord_10 rfl ?_
    refine r_imul dX10_writesWord_12 ?_
    refine r_lshr dX10_writesWord_13 ?_
    refine r_lconst (v := 0) dX10_writesWord_14 (by decide) ?_
    refine r_lcmp dX10_writesWord_15 ?_
    refine r_if_le (tgt := 25) dX10_writesWord_16 (by decide) (fun hz => absurd hz (show ¬ _ from w1 i (by omega))) (fun _ => ?_)
    refine r_iinc (v := nI (i + 1)) dX10_writesWord_19 rfl (nI_inc i) ?_
    refine r_goto (tgt := 8) dX10_writesWord_22 (by decide) ?_
    exact ih (i + 1) (by omega)

theorem wOk_0 : wOk 267845 4 [nI 104, nI 101, nI 114, nI 101] := ⟨by decide +kernel, by decide +kernel, by decide +kernel, rfl, by decide, by decide⟩
set_option maxHeartbeats 4000000 in
set_option maxRecDepth 100000 in
theorem c_word_0 (m : Nat) (q : PS) {n : Nat} {kd : mK} {I : mI} {J : mJ} {P : mP} (hM : kM kd P m) (hp : pPl q + 6 < 1100) : Ct yX10_writesWord cX10_writesWord 6 none 3 0 0 [.ref m, .int (nI 0)] n kd (gI m q I) J P (am_is none n kd (gI m (pWs [nI 104, nI 101, nI 114, nI 101] q) I) J P) := by
  refine ct_of 4 (by decide +kernel) (Nat.le_of_ble_eq_true rfl) rfl ?_
  refine r_iload_n dX10_writesWord_0 rfl ?_
  refine r_statE (c_letters_0) lk_X10_245 mc_X10_letters dX10_writesWord_1 (by decide) rfl rfl (Nat.le_of_ble_eq_true rfl) ?_
  refine r_lstore_n dX10_writesWord_4 (by decide) ?_
  refine r_iconst (v := nI 0) dX10_writesWord_5 (by decide) ?_
  refine r_istore dX10_writesWord_6 (by decide) ?_
  exact (wa_X10_writesWord m 4 (nI 0) 267845 [nI 104, nI 101, nI 114, nI 101] q hM wOk_0 (by omega) 4 0 (by omega))

theorem wOk_6 : wOk 486 2 [nI 111, nI 102] := ⟨by decide +kernel, by decide +kernel, by decide +kernel, rfl, by decide, by decide⟩
set_option maxHeartbeats 4000000 in
set_option maxRecDepth 100000 in
theorem c_word_6 (m : Nat) (q : PS) {n : Nat} {kd : mK} {I : mI} {J : mJ} {P : mP} (hM : kM kd P m) (hp : pPl q + 6 < 1100) : Ct yX10_writesWord cX10_writesWord 6 none 3 0 0 [.ref m, .int (nI 6)] n kd (gI m q I) J P (am_is none n kd (gI m (pWs [nI 111, nI 102] q) I) J P) := by
  refine ct_of 4 (by decide +kernel) (Nat.le_of_ble_eq_true rfl) rfl ?_
  refine r_iload_n dX10_writesWord_0 rfl ?_
  refine r_statE (c_letters_6) lk_X10_245 mc_X10_letters dX10_writesWord_1 (by decide) rfl rfl (Nat.le_of_ble_eq_true rfl) ?_
  refine r_lstore_n dX10_writesWord_4 (by decide) ?_
  refine r_iconst (v := nI 0) dX10_writesWord_5 (by decide) ?_
  refine r_istore dX10_writesWord_6 (by decide) ?_
  exact (wa_X10_writesWord m 2 (nI 6) 486 [nI 111, nI 102] q hM wOk_6 (by omega) 2 0 (by omega))

theorem wOk_12 : wOk 14836 3 [nI 110, nI 111, nI 116] := ⟨by decide +kernel, by decide +kernel, by decide +kernel, rfl, by decide, by decide⟩
set_option maxHeartbeats 4000000 in
set_option maxRecDepth 100000 in
theorem c_word_12 (m : Nat) (q : PS) {n : Nat} {kd : mK} {I : mI} {J : mJ} {P : mP} (hM : kM kd P m) (hp : pPl q + 6 < 1100) : Ct yX10_writesWord cX10_writesWord 6 none 3 0 0 [.ref m, .int (nI 12)] n kd (gI m q I) J P (am_is none n kd (gI m (pWs [nI 110, nI 111, nI 116] q) I) J P) := by
  refine ct_of 4 (by decide +kernel) (Nat.le_of_ble_eq_true rfl) rfl ?_
  refine r_iload_n dX10_writesWord_0 rfl ?_
  refine r_statE (c_letters_12) lk_X10_245 mc_X10_letters dX10_writesWord_1 (by decide) rfl rfl (Nat.le_of_ble_eq_true rfl) ?_
  refine r_lstore_n dX10_writesWord_4 (by decide) ?_
  refine r_iconst (v := nI 0) dX10_writesWord_5 (by decide) ?_
  refine r_istore dX10_writesWord_6 (by decide) ?_
  exact (wa_X10_writesWord m 3 (nI 12) 14836 [nI 110, nI 111, nI 116] q hM wOk_12 (by omega) 3 0 (by omega))

theorem dX10_writesNumber_0 : decode cX10_writesNumber 0 = .ok (.iload_n 1, 1) := by decide +kernel
theorem dX10_writesNumber_1 : decode cX10_writesNumber 1 = .ok (.bipush 9, 2) := by decide +kernel
theorem dX10_writesNumber_3 : decode cX10_writesNumber 3 = .ok (.if_icmp .le 14, 3) := by decide +kernel
theorem dX10_writesNumber_6 : decode cX10_writesNumber 6 = .ok (.aload_n 0, 1) := by decide +kernel
theorem dX10_writesNumber_7 : decode cX10_writesNumber 7 = .ok (.bipush 48, 2) := by decide +kernel
theorem dX10_writesNumber_9 : decode cX10_writesNumber 9 = .ok (.iload_n 1, 1) := by decide +kernel
theorem dX10_writesNumber_10 : decode cX10_writesNumber 10 = .ok (.bipush 10, 2) := by decide +kernel
theorem dX10_writesNumber_12 : decode cX10_writesNumber 12 = .ok (.idiv, 1) := by decide +kernel
theorem dX10_writesNumber_13 : decode cX10_writesNumber 13 = .ok (.iadd, 1) := by decide +kernel
theorem dX10_writesNumber_14 : decode cX10_writesNumber 14 = .ok (.invokevirtual 508, 3) := by decide +kernel
theorem dX10_writesNumber_17 : decode cX10_writesNumber 17 = .ok (.aload_n 0, 1) := by decide +kernel
theorem dX10_writesNumber_18 : decode cX10_writesNumber 18 = .ok (.bipush 48, 2) := by decide +kernel
theorem dX10_writesNumber_20 : decode cX10_writesNumber 20 = .ok (.iload_n 1, 1) := by decide +kernel
theorem dX10_writesNumber_21 : decode cX10_writesNumber 21 = .ok (.bipush 10, 2) := by decide +kernel
theorem dX10_writesNumber_23 : decode cX10_writesNumber 23 = .ok (.irem, 1) := by decide +kernel
theorem dX10_writesNumber_24 : decode cX10_writesNumber 24 = .ok (.iadd, 1) := by decide +kernel
theorem dX10_writesNumber_25 : decode cX10_writesNumber 25 = .ok (.invokevirtual 508, 3) := by decide +kernel
theorem dX10_writesNumber_28 : decode cX10_writesNumber 28 = .ok (.return_, 1) := by decide +kernel

set_option maxHeartbeats 4000000 in
set_option maxRecDepth 100000 in
theorem c_n (m k : Nat) (q : PS) {n : Nat} {kd : mK} {I : mI} {J : mJ} {P : mP} (hM : kM kd P m) (hk : k < 100) (hp : pPl q + 2 < 1100) : Ct yX10_writesNumber cX10_writesNumber 2 none 2 0 0 [.ref m, .int (nI k)] n kd (gI m q I) J P (am_is none n kd (gI m (pWs (dg k) q) I) J P) := by
  unfold dg
  refine ct_of 0 (by decide +kernel) (Nat.le_of_ble_eq_true rfl) rfl ?_
  by_cases h9 : 9 < k
  · rw [if_pos h9]
    refine r_iload_n dX10_writesNumber_0 rfl ?_
    refine r_bipush (v := nI 9) dX10_writesNumber_1 (by decide) ?_
    refine r_icmp_le (tgt := 17) dX10_writesNumber_3 (by decide) (fun hz => absurd hz (show ¬ _ from (by rw [nI_leI (by omega) (by omega)]; omega))) (fun _ => ?_)
    refine r_aload_n dX10_writesNumber_6 rfl ?_
    refine r_bipush (v := nI 48) dX10_writesNumber_7 (by decide) ?_
    refine r_iload_n dX10_writesNumber_9 rfl ?_
    refine r_bipush (v := nI 10) dX10_writesNumber_10 (by decide) ?_
    refine r_idiv dX10_writesNumber_12 (by decide) ?_
    rw [pk_div (by omega) (by omega) (by omega)]
    refine r_iadd dX10_writesNumber_13 ?_
    rw [nI_add]
    refine r_virtV (c_w m q (nI (48 + k / 10)) hM (by omega)) lk_X10_508 mc_X10_writes dX10_writesNumber_14 (kM_0 hM) (by decide) rfl rfl (Nat.le_of_ble_eq_true rfl) ?_
    refine r_aload_n dX10_writesNumber_17 rfl ?_
    refine r_bipush (v := nI 48) dX10_writesNumber_18 (by decide) ?_
    refine r_iload_n dX10_writesNumber_20 rfl ?_
    refine r_bipush (v := nI 10) dX10_writesNumber_21 (by decide) ?_
    refine r_irem dX10_writesNumber_23 (by decide) ?_
    rw [pk_rem (by omega) (by omega) (by omega)]
    refine r_iadd dX10_writesNumber_24 ?_
    rw [nI_add]
    refine r_virtV (c_w m (pW (nI (48 + k / 10)) q) (nI (48 + k % 10)) hM (by rw [(pW_pl _ _).1]; omega)) lk_X10_508 mc_X10_writes dX10_writesNumber_25 (kM_0 hM) (by decide) rfl rfl (Nat.le_of_ble_eq_true rfl) ?_
    refine r_vret rfl dX10_writesNumber_28 ?_
    exact am_is.mk
  · rw [if_neg h9]
    refine r_iload_n dX10_writesNumber_0 rfl ?_
    refine r_bipush (v := nI 9) dX10_writesNumber_1 (by decide) ?_
    refine r_icmp_le (tgt := 17) dX10_writesNumber_3 (by decide) (fun _ => ?_) (fun hz => absurd (show _ from (by rw [nI_leI (by omega) (by omega)]; omega)) hz)
    refine r_aload_n dX10_writesNumber_17 rfl ?_
    refine r_bipush (v := nI 48) dX10_writesNumber_18 (by decide) ?_
    refine r_iload_n dX10_writesNumber_20 rfl ?_
    refine r_bipush (v := nI 10) dX10_writesNumber_21 (by decide) ?_
    refine r_irem dX10_writesNumber_23 (by decide) ?_
    rw [pk_rem (by omega) (by omega) (by omega)]
    refine r_iadd dX10_writesNumber_24 ?_
    rw [nI_add]
    refine r_virtV (c_w m q (nI (48 + k % 10)) hM (by omega)) lk_X10_508 mc_X10_writes dX10_writesNumber_25 (kM_0 hM) (by decide) rfl rfl (Nat.le_of_ble_eq_true rfl) ?_
    refine r_vret rfl dX10_writesNumber_28 ?_
    exact am_is.mk


/-! READ -/
theorem rdR_congr {I I1 : mI} {r s l x len : Nat} (h : ∀ a, a ≠ r → I1 a = I a) (o1 : s + 9 < l) (o2 : l + 5 < r) (hx : x ≠ r) : rdR I1 s l x len = rdR I s l x len := by
  unfold rdR rd0 ssOf
  rw [h x hx, h s (by omega), h (s + 1) (by omega), h (s + 2) (by omega), h (s + 3) (by omega), h (s + 4) (by omega), h (s + 5) (by omega), h (s + 6) (by omega), h (s + 7) (by omega), h (l + 1) (by omega), h (l + 2) (by omega)]
theorem kS.congr {kd : mK} {P P1 : mP} {s : Nat} (h : P1 s = P s) (hS : kS kd P s) : kS kd P1 s := by
  unfold kS at *
  rw [h]
  exact hS
theorem kL.congr {kd : mK} {P P1 : mP} {s : Nat} (h : P1 s = P s) (hS : kL kd P s) : kL kd P1 s := by
  unfold kL at *
  rw [h]
  exact hS
def rdQ (P : mP) (r x s l : Nat) : mP := va_up (va_up (va_up P r (va_up (P r) 0 (some x))) r (va_up (va_up P r (va_up (P r) 0 (some x)) r) 8 (some s))) r (va_up (va_up (va_up P r (va_up (P r) 0 (some x))) r (va_up (va_up P r (va_up (P r) 0 (some x)) r) 8 (some s)) r) 9 (some l))
theorem rdQ_ne {P : mP} {r x s l a : Nat} (h : a ≠ r) : rdQ P r x s l a = P a := by unfold rdQ; rw [am_up_n _ _ h, am_up_n _ _ h, am_up_n _ _ h]
theorem rdQ_r {P : mP} {r x s l : Nat} (k : Nat) : rdQ P r x s l r k = if k = 9 then some l else if k = 8 then some s else if k = 0 then some x else P r k := by
  unfold rdQ
  rw [am_up_s, am_up_s, am_up_s]
  unfold va_up
  split
  · rfl
  split
  · rfl
  split
  · rfl
  · rfl
set_option maxHeartbeats 4000000 in
set_option maxRecDepth 100000 in
theorem c_X5_read (r s l x XL N len : Nat) {n : Nat} {kd : mK} {I : mI} {J : mJ} {P : mP} (k0 : kd r = some (0, 5)) (k2 : kd (r + 2) = some (1, 501)) (k3 : kd (r + 3) = some (1, 501)) (k4 : kd (r + 4) = some (1, 501)) (x2 : P r 2 = some (r + 2)) (x3 : P r 3 = some (r + 3)) (x4 : P r 4 = some (r + 4)) (hS : kS kd P s) (hL : kL kd P l) (o1 : s + 9 < l) (o2 : l + 5 < r) (kx : kd x = some (2, XL)) (ox : x < s ∨ r + 4 < x) (xl : XL < 2 ^ 30) (hN : N < 2 ^ 31) (hlen : min (min N XL) 500 = len) (hF : ∀ i, i < len → fits .byte (.int (I x i)) = true) (hx9 : x < 1000000) (hr9 : r < 1000000) : Ct yX5_read cX5_read 6 (some .boolean) 61 0 0 [.ref r, .ref x, .int (nI N), .ref s, .ref l] n kd I J P (rdP n kd I J (rdQ P r x s l) r s l x len) := by
  refine ct_of 1 (by decide +kernel) (Nat.le_of_ble_eq_true rfl) rfl ?_
  refine r_aload_n dX5_read_0 rfl ?_
  refine r_aload_n dX5_read_1 rfl ?_
  refine r_putR dX5_read_2 fl_X5_9 (Or.inl rfl) rfl k0 hx9 ?_
  refine r_aload_n dX5_read_5 rfl ?_
  refine r_iload_n dX5_read_6 rfl ?_
  refine r_aload_n dX5_read_7 rfl ?_
  refine r_alen dX5_read_8 kx (by decide) ?_
  refine r_mmin dX5_read_9 mm_X5_56 (by decide) (Nat.le_of_ble_eq_true rfl) ?_
  rw [mn_nI (by omega) (by omega)]
  refine r_sipush (v := nI 500) dX5_read_12 (by decide) ?_
  refine r_mmin dX5_read_15 mm_X5_56 (by decide) (Nat.le_of_ble_eq_true rfl) ?_
  rw [mn_nI (by omega) (by omega), hlen]
  refine r_putI dX5_read_18 fl_X5_15 rfl rfl k0 ?_
  refine r_aload_n dX5_read_21 rfl ?_
  refine r_aload_n dX5_read_22 rfl ?_
  refine r_putR dX5_read_23 fl_X5_38 (Or.inl rfl) rfl k0 (by omega) ?_
  refine r_aload_n dX5_read_26 rfl ?_
  refine r_aload dX5_read_27 rfl ?_
  refine r_putR dX5_read_29 fl_X5_42 (Or.inl rfl) rfl k0 (by omega) ?_
  have eI : ∀ a, a ≠ r → va_up I r (va_up (I r) 1 (nI len)) a = I a := fun a ha => am_up_n _ _ ha
  refine RuZ.mono (w2_X5_read (P := rdQ P r x s l) r s l x XL len (nI N) k0 k2 k3 k4 (by rw [rdQ_r]; exact x2) (by rw [rdQ_r]; exact x3) (by rw [rdQ_r]; exact x4) (by rw [rdQ_r]; rfl) (by rw [rdQ_r]; rfl) (by rw [rdQ_r]; rfl) (hS.congr (rdQ_ne (by omega))) (hL.congr (rdQ_ne (by omega))) o1 o2 kx ox xl (by rw [am_up_s, am_up_s]) (by omega) (by omega) (fun i hi => by rw [eI x (by omega)]; exact hF i hi)) ?_
  rintro z n' kd' I' J' P' ⟨rfl, rfl, rfl, rfl, rfl, I0, rfl, h1, h2⟩
  refine ⟨by rw [rdR_congr eI o1 o2 (by omega)], rfl, rfl, rfl, rfl, I0, by rw [rdR_congr eI o1 o2 (by omega), eI x (by omega)], fun a ha => by rw [h1 a ha, eI a (by omega)], by rw [h2, eI l (by omega)]⟩


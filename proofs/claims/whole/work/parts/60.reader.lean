/-! THE READER: tokens T = (length, how many, kinds, begins, ends, bytes), state R = (at, faultKind, faultPlace, mostTold, sons, debts, street) -/
abbrev RS : Type := Nat × Int32 × Int32 × Int32 × (Nat → Int32) × (Nat → Int32) × SS
abbrev RT : Type := Nat × Nat × (Nat → Int32) × (Nat → Nat) × (Nat → Nat) × (Nat → Int32)
def rk (T : RT) (R : RS) : Int32 := T.2.2.1 R.1
def rf (R : RS) : Int32 := R.2.1
def lI (l : Nat) (so de : Nat → Int32) (I : mI) : mI := fun x => if x = l + 1 then so else if x = l + 2 then de else I x
def hRow (k : Int32) (R : RS) (W : Nat → Int32) : Nat → Int32 := fun j => if j = 6 then nI R.1 else if j = 7 then k else if j = 10 then R.2.2.2.1 else if j = 11 then R.2.1 else if j = 12 then R.2.2.1 else W j
def hI (r : Nat) (k : Int32) (R : RS) (I : mI) : mI := fun x => if x = r then hRow k R (I r) else I x
def rI (r s l : Nat) (T : RT) (R : RS) (I : mI) : mI := sI s R.2.2.2.2.2.2 (lI l R.2.2.2.2.1 R.2.2.2.2.2.1 (hI r (rk T R) R I))
theorem sI_out {s a : Nat} (q : SS) (I : mI) (R : Nat → Int32) (h : a < s ∨ s + 7 < a) : va_up (sI s q I) a R = sI s q (va_up I a R) := by
  funext b
  by_cases hb : b = a
  · subst hb; rw [am_up_s, sI_ne _ _ h, am_up_s]
  · rw [am_up_n _ _ hb]
    obtain ⟨ho, mo, un, ri, cd, tl, lo, co, cf, ct, tx, tf, tt⟩ := q
    simp only [sI]
    rw [am_up_n _ _ (show s ≠ a by omega), am_up_n _ _ hb]
theorem lI_ne {l a : Nat} (so de : Nat → Int32) (I : mI) (h1 : a ≠ l + 1) (h2 : a ≠ l + 2) : lI l so de I a = I a := by simp [lI, h1, h2]
theorem lI_out {l a : Nat} (so de : Nat → Int32) (I : mI) (R : Nat → Int32) (h1 : a ≠ l + 1) (h2 : a ≠ l + 2) : va_up (lI l so de I) a R = lI l so de (va_up I a R) := by
  funext b
  by_cases hb : b = a
  · subst hb; rw [am_up_s, lI_ne _ _ _ h1 h2, am_up_s]
  · rw [am_up_n _ _ hb]
    simp only [lI]
    rw [am_up_n _ _ hb]
theorem hI_up (r : Nat) (k : Int32) (R : RS) (I : mI) (W : Nat → Int32) : va_up (hI r k R I) r W = va_up I r W := by
  funext b
  by_cases hb : b = r
  · subst hb; rw [am_up_s, am_up_s]
  · rw [am_up_n _ _ hb, am_up_n _ _ hb]; simp [hI, hb]
theorem rI_rr {r s l : Nat} (T : RT) (R : RS) (I : mI) (h1 : s + 9 < l) (h2 : l + 5 < r) : rI r s l T R I r = hRow (rk T R) R (I r) := by
  unfold rI
  rw [sI_ne _ _ (by omega), lI_ne _ _ _ (by omega) (by omega)]
  simp [hI]
theorem rI_ne {r s l a : Nat} (T : RT) (R : RS) (I : mI) (h : a < s ∨ r < a) (h1 : s + 9 < l) (h2 : l + 5 < r) : rI r s l T R I a = I a := by
  unfold rI
  rw [sI_ne _ _ (by omega), lI_ne _ _ _ (by omega) (by omega)]
  simp [hI, show a ≠ r by omega]
theorem rI_up {r s l : Nat} (T : RT) (R R2 : RS) (I : mI) (W : Nat → Int32) (h1 : s + 9 < l) (h2 : l + 5 < r) (hq : R2.2.2.2.2 = R.2.2.2.2) (hW : W = hRow (rk T R2) R2 (I r)) : va_up (rI r s l T R I) r W = rI r s l T R2 I := by
  unfold rI
  rw [hq, sI_out _ _ _ (by omega), lI_out _ _ _ _ (by omega) (by omega), hI_up, hW]
  congr 2
def rOK (kd : mK) (P : mP) (I : mI) (r s l x XL : Nat) (T : RT) : Prop :=
  (kd r = some (0, 5) ∧ kd (r + 2) = some (1, 501) ∧ kd (r + 3) = some (1, 501) ∧ kd (r + 4) = some (1, 501)) ∧ (P r 0 = some x ∧ P r 2 = some (r + 2) ∧ P r 3 = some (r + 3) ∧ P r 4 = some (r + 4) ∧ P r 8 = some s ∧ P r 9 = some l) ∧ kS kd P s ∧ kL kd P l ∧ (s + 9 < l ∧ l + 5 < r) ∧ (kd x = some (2, XL) ∧ (x < s ∨ r + 4 < x) ∧ XL < 2 ^ 30) ∧ (I r 1 = nI T.1 ∧ I r 5 = nI T.2.1) ∧ (∀ i, i < T.2.1 → I (r + 2) i = T.2.2.1 i ∧ I (r + 3) i = nI (T.2.2.2.1 i) ∧ I (r + 4) i = nI (T.2.2.2.2.1 i)) ∧ (1 ≤ T.2.1 ∧ T.2.1 ≤ 501 ∧ T.1 ≤ 500 ∧ T.1 ≤ XL) ∧ (∀ i, i < T.2.1 → T.2.2.2.1 i ≤ T.2.2.2.2.1 i ∧ T.2.2.2.2.1 i ≤ T.1) ∧ I x = T.2.2.2.2.2 ∧ (∀ i, i < T.1 → fits .byte (.int (T.2.2.2.2.2 i)) = true)
def SS.ok (h : Nat) (q : SS) : Prop := q.1 = h + 1 ∧ h < 8 ∧ q.2.2.2.2.1 ≤ 520 ∧ q.2.2.2.2.2.1 ≤ 1000 ∧ ∃ f, f ≤ q.2.2.2.2.2.1 ∧ q.2.2.2.2.2.2.2.2.2.2.2.1 h = nI f
def rInv (T : RT) (h : Nat) (R : RS) : Prop := R.1 < T.2.1 ∧ SS.ok h R.2.2.2.2.2.2
def rNx (T : RT) (R : RS) : RS := if R.1 + 1 < T.2.1 then (R.1 + 1, R.2) else R
def rFail (T : RT) (f : Int32) (R : RS) : RS := if R.2.1 = 0 then (R.1, f, nI (T.2.2.2.1 R.1), R.2.2.2) else R
def rSt (R : RS) (q : SS) : RS := (R.1, R.2.1, R.2.2.1, R.2.2.2.1, R.2.2.2.2.1, R.2.2.2.2.2.1, q)
def rCode (c : Int32) (R : RS) : RS := rSt R (SS.code R.2.2.2.2.2.2 c)
def rTok (T : RT) (R : RS) : RS := rSt R (SS.token R.2.2.2.2.2.2 T.2.2.2.2.2 (T.2.2.2.1 R.1) (T.2.2.2.2.1 R.1))
def rTake (T : RT) (R : RS) : RS := rNx T (rTok T R)
def rPass (T : RT) (w : Int32) (R : RS) : RS := if rk T R = w then rNx T R else rFail T (nI 1) R
/-- the value of k digits from b on -/
def nv (X : Nat → Int32) (b : Nat) : Nat → Int32
  | 0 => nI 0
  | k + 1 => nI 10 * nv X b k + X (b + k) - nI 48
def rNumV (T : RT) (lo hi : Int32) (R : RS) : Int32 := if ¬ rf R = 0 then lo else if ¬ rk T R = nI 2 then lo else if 4 < T.2.2.2.2.1 R.1 - T.2.2.2.1 R.1 then lo else if nv T.2.2.2.2.2 (T.2.2.2.1 R.1) (T.2.2.2.2.1 R.1 - T.2.2.2.1 R.1) < lo ∨ hi < nv T.2.2.2.2.2 (T.2.2.2.1 R.1) (T.2.2.2.2.1 R.1 - T.2.2.2.1 R.1) then lo else nv T.2.2.2.2.2 (T.2.2.2.1 R.1) (T.2.2.2.2.1 R.1 - T.2.2.2.1 R.1)
def rNumR (T : RT) (lo hi : Int32) (R : RS) : RS := if ¬ rf R = 0 then R else if ¬ rk T R = nI 2 then rFail T (nI 1) R else if 4 < T.2.2.2.2.1 R.1 - T.2.2.2.1 R.1 then rFail T (nI 2) R else if nv T.2.2.2.2.2 (T.2.2.2.1 R.1) (T.2.2.2.2.1 R.1 - T.2.2.2.1 R.1) < lo ∨ hi < nv T.2.2.2.2.2 (T.2.2.2.1 R.1) (T.2.2.2.2.1 R.1 - T.2.2.2.1 R.1) then rFail T (nI 2) R else R
def cov (k : Int32) (h : Nat) : Int32 := if k = nI 136 then nI (10000 + h) else if k = nI 137 then (if h = 0 then nI 0 else nI (10000 + h - 1)) else if k = nI 138 then nI (10000 + h + 1) else if k = nI 139 then nI 20000 else if k = nI 140 then nI 20001 else if k = nI 129 then nI 20002 else -1
theorem SS.code_ok {h : Nat} {q : SS} (c : Int32) (hq : SS.ok h q) : SS.ok h (SS.code q c) := by
  obtain ⟨ho, mo, un, ri, cd, tl, lo, co, cf, ct, tx, tf, tt⟩ := q
  obtain ⟨h1, h2, h3, h4, h5⟩ := hq
  simp only [SS.code]
  split
  · exact ⟨h1, h2, h3, h4, h5⟩
  · exact ⟨h1, h2, by show cd + 1 ≤ 520; omega, h4, h5⟩
theorem SS.token_ok {h : Nat} {q : SS} (X : Nat → Int32) (b e : Nat) (hq : SS.ok h q) : SS.ok h (SS.token q X b e) := by
  obtain ⟨ho, mo, un, ri, cd, tl, lo, co, cf, ct, tx, tf, tt⟩ := q
  obtain ⟨h1, h2, h3, h4, f, h5, h6⟩ := hq
  dsimp only at h1 h3 h4 h5 h6
  simp only [SS.token]
  split
  · exact ⟨h1, h2, h3, h4, f, h5, h6⟩
  · split
    · exact ⟨h1, h2, h3, by show tl + 1 + (e - b) ≤ 1000; omega, f, by show f ≤ tl + 1 + (e - b); omega, h6⟩
    · exact ⟨h1, h2, h3, by show tl + (e - b) ≤ 1000; omega, f, by show f ≤ tl + (e - b); omega, h6⟩
section
variable {T : RT} {h : Nat} {R : RS}
theorem rInv.fail (f : Int32) (hi : rInv T h R) : rInv T h (rFail T f R) := by unfold rFail; split <;> exact hi
theorem rInv.nx (hi : rInv T h R) : rInv T h (rNx T R) := by
  unfold rNx
  split
  · exact ⟨by assumption, hi.2⟩
  · exact hi
theorem rInv.code (c : Int32) (hi : rInv T h R) : rInv T h (rCode c R) := ⟨hi.1, SS.code_ok c hi.2⟩
theorem rInv.tok (hi : rInv T h R) : rInv T h (rTok T R) := ⟨hi.1, SS.token_ok _ _ _ hi.2⟩
theorem rInv.take (hi : rInv T h R) : rInv T h (rTake T R) := hi.tok.nx
theorem rInv.num (lo hi0 : Int32) (hi : rInv T h R) : rInv T h (rNumR T lo hi0 R) := by
  unfold rNumR
  split
  · exact hi
  · split
    · exact hi.fail _
    · split
      · exact hi.fail _
      · split
        · exact hi.fail _
        · exact hi
end
theorem dX5_fail_0 : decode cX5_fail 0 = .ok (.aload_n 0, 1) := by decide +kernel
theorem dX5_fail_1 : decode cX5_fail 1 = .ok (.getfield 50, 3) := by decide +kernel
theorem dX5_fail_4 : decode cX5_fail 4 = .ok (.ifCond .ne 21, 3) := by decide +kernel
theorem dX5_fail_7 : decode cX5_fail 7 = .ok (.aload_n 0, 1) := by decide +kernel
theorem dX5_fail_8 : decode cX5_fail 8 = .ok (.iload_n 1, 1) := by decide +kernel
theorem dX5_fail_9 : decode cX5_fail 9 = .ok (.putfield 50, 3) := by decide +kernel
theorem dX5_fail_12 : decode cX5_fail 12 = .ok (.aload_n 0, 1) := by decide +kernel
theorem dX5_fail_13 : decode cX5_fail 13 = .ok (.aload_n 0, 1) := by decide +kernel
theorem dX5_fail_14 : decode cX5_fail 14 = .ok (.getfield 23, 3) := by decide +kernel
theorem dX5_fail_17 : decode cX5_fail 17 = .ok (.aload_n 0, 1) := by decide +kernel
theorem dX5_fail_18 : decode cX5_fail 18 = .ok (.getfield 32, 3) := by decide +kernel
theorem dX5_fail_21 : decode cX5_fail 21 = .ok (.iaload, 1) := by decide +kernel
theorem dX5_fail_22 : decode cX5_fail 22 = .ok (.putfield 53, 3) := by decide +kernel
theorem dX5_fail_25 : decode cX5_fail 25 = .ok (.return_, 1) := by decide +kernel
set_option maxHeartbeats 4000000 in
set_option maxRecDepth 100000 in
theorem c_X5_fail (r s l x XL : Nat) (T : RT) (R : RS) (f : Int32) {n : Nat} {kd : mK} {I : mI} {J : mJ} {P : mP} (hB : rOK kd P I r s l x XL T) (ha : R.1 < T.2.1) : Ct yX5_fail cX5_fail 2 none 1 0 0 [.ref r, .int f] n kd (rI r s l T (R) I) J P (am_is none n kd (rI r s l T (rFail T f R) I) J P) := by
  have hB0 := hB
  obtain ⟨⟨k0, k2, k3, k4⟩, ⟨x0, x2, x3, x4, x8, x9⟩, hS, hL, ⟨o1, o2⟩, ⟨kx, ox, xl⟩, ⟨i1, i5⟩, hT, ⟨t1, t2, t3, t4⟩, hBE, hX, hF⟩ := hB
  refine ct_of 0 (by decide +kernel) (Nat.le_of_ble_eq_true rfl) rfl ?_
  unfold rFail
  by_cases hc : R.2.1 = 0
  · rw [if_pos hc]
    refine r_aload_n dX5_fail_0 rfl ?_
    refine r_getI dX5_fail_1 fl_X5_50 rfl (k0) ?_
    rw [rI_rr _ _ _ o1 o2, show hRow (rk T R) R (I r) 11 = rf R from rfl]
    refine r_if_ne (tgt := 25) dX5_fail_4 (by decide) (fun hz => absurd (show _ from hc) hz) (fun _ => ?_)
    refine r_aload_n dX5_fail_7 rfl ?_
    refine r_iload_n dX5_fail_8 rfl ?_
    refine r_putI dX5_fail_9 fl_X5_50 rfl rfl k0 ?_
    rw [rI_up T R (R.1, f, R.2.2) I _ o1 o2 rfl (by rw [rI_rr _ _ _ o1 o2]; funext j; unfold hRow va_up; by_cases e11 : j = 11 <;> simp [e11, rk])]
    refine r_aload_n dX5_fail_12 rfl ?_
    refine r_aload_n dX5_fail_13 rfl ?_
    refine r_getR dX5_fail_14 fl_X5_23 rfl (k0) (x3) ?_
    refine r_aload_n dX5_fail_17 rfl ?_
    refine r_getI dX5_fail_18 fl_X5_32 rfl k0 ?_
    rw [rI_rr _ _ _ o1 o2, show hRow (rk T (R.1, f, R.2.2)) (R.1, f, R.2.2) (I r) 6 = nI R.1 from rfl]
    refine r_iald dX5_fail_21 (k3) (nI_in8 501 (by omega) (by decide)) (nI_clamp (by omega)) ?_
    rw [rI_ne _ _ _ (Or.inr (by omega)) o1 o2, (hT _ (by omega)).2.1]
    refine r_putI dX5_fail_22 fl_X5_53 rfl rfl k0 ?_
    rw [rI_up T (R.1, f, R.2.2) (R.1, f, nI (T.2.2.2.1 R.1), R.2.2.2) I _ o1 o2 rfl (by rw [rI_rr _ _ _ o1 o2]; funext j; unfold hRow va_up; by_cases e12 : j = 12 <;> simp [e12, rk])]
    refine r_vret rfl dX5_fail_25 ?_
    exact am_is.mk
  · rw [if_neg hc]
    refine r_aload_n dX5_fail_0 rfl ?_
    refine r_getI dX5_fail_1 fl_X5_50 rfl (k0) ?_
    rw [rI_rr _ _ _ o1 o2, show hRow (rk T R) R (I r) 11 = rf R from rfl]
    refine r_if_ne (tgt := 25) dX5_fail_4 (by decide) (fun _ => ?_) (fun hz => absurd hz (show ¬ _ from hc))
    refine r_vret rfl dX5_fail_25 ?_
    exact am_is.mk

theorem dX5_next_0 : decode cX5_next 0 = .ok (.aload_n 0, 1) := by decide +kernel
theorem dX5_next_1 : decode cX5_next 1 = .ok (.getfield 32, 3) := by decide +kernel
theorem dX5_next_4 : decode cX5_next 4 = .ok (.aload_n 0, 1) := by decide +kernel
theorem dX5_next_5 : decode cX5_next 5 = .ok (.getfield 29, 3) := by decide +kernel
theorem dX5_next_8 : decode cX5_next 8 = .ok (.iconst 1, 1) := by decide +kernel
theorem dX5_next_9 : decode cX5_next 9 = .ok (.isub, 1) := by decide +kernel
theorem dX5_next_10 : decode cX5_next 10 = .ok (.if_icmp .ge 26, 3) := by decide +kernel
theorem dX5_next_13 : decode cX5_next 13 = .ok (.aload_n 0, 1) := by decide +kernel
theorem dX5_next_14 : decode cX5_next 14 = .ok (.dup, 1) := by decide +kernel
theorem dX5_next_15 : decode cX5_next 15 = .ok (.getfield 32, 3) := by decide +kernel
theorem dX5_next_18 : decode cX5_next 18 = .ok (.iconst 1, 1) := by decide +kernel
theorem dX5_next_19 : decode cX5_next 19 = .ok (.iadd, 1) := by decide +kernel
theorem dX5_next_20 : decode cX5_next 20 = .ok (.putfield 32, 3) := by decide +kernel
theorem dX5_next_23 : decode cX5_next 23 = .ok (.aload_n 0, 1) := by decide +kernel
theorem dX5_next_24 : decode cX5_next 24 = .ok (.aload_n 0, 1) := by decide +kernel
theorem dX5_next_25 : decode cX5_next 25 = .ok (.getfield 19, 3) := by decide +kernel
theorem dX5_next_28 : decode cX5_next 28 = .ok (.aload_n 0, 1) := by decide +kernel
theorem dX5_next_29 : decode cX5_next 29 = .ok (.getfield 32, 3) := by decide +kernel
theorem dX5_next_32 : decode cX5_next 32 = .ok (.iaload, 1) := by decide +kernel
theorem dX5_next_33 : decode cX5_next 33 = .ok (.putfield 35, 3) := by decide +kernel
theorem dX5_next_36 : decode cX5_next 36 = .ok (.return_, 1) := by decide +kernel
set_option maxHeartbeats 4000000 in
set_option maxRecDepth 100000 in
theorem c_X5_next (r s l x XL : Nat) (T : RT) (R : RS) {n : Nat} {kd : mK} {I : mI} {J : mJ} {P : mP} (hB : rOK kd P I r s l x XL T) (ha : R.1 < T.2.1) : Ct yX5_next cX5_next 1 none 1 0 0 [.ref r] n kd (rI r s l T (R) I) J P (am_is none n kd (rI r s l T (rNx T R) I) J P) := by
  have hB0 := hB
  obtain ⟨⟨k0, k2, k3, k4⟩, ⟨x0, x2, x3, x4, x8, x9⟩, hS, hL, ⟨o1, o2⟩, ⟨kx, ox, xl⟩, ⟨i1, i5⟩, hT, ⟨t1, t2, t3, t4⟩, hBE, hX, hF⟩ := hB
  refine ct_of 0 (by decide +kernel) (Nat.le_of_ble_eq_true rfl) rfl ?_
  unfold rNx
  by_cases hc : R.1 + 1 < T.2.1
  · rw [if_pos hc]
    refine r_aload_n dX5_next_0 rfl ?_
    refine r_getI dX5_next_1 fl_X5_32 rfl (k0) ?_
    rw [rI_rr _ _ _ o1 o2, show hRow (rk T R) R (I r) 6 = nI R.1 from rfl]
    refine r_aload_n dX5_next_4 rfl ?_
    refine r_getI dX5_next_5 fl_X5_29 rfl (k0) ?_
    rw [rI_rr _ _ _ o1 o2, show hRow _ _ _ 5 = _ from i5]
    refine r_iconst (v := nI 1) dX5_next_8 (by decide) ?_
    refine r_isub dX5_next_9 ?_
    rw [pk_sub (by omega)]
    refine r_icmp_ge (tgt := 36) dX5_next_10 (by decide) (fun hz => absurd hz (show ¬ _ from (by rw [nI_leI (by omega) (by omega)]; omega))) (fun _ => ?_)
    refine r_aload_n dX5_next_13 rfl ?_
    refine r_dup dX5_next_14 rfl ?_
    refine r_getI dX5_next_15 fl_X5_32 rfl (k0) ?_
    rw [rI_rr _ _ _ o1 o2, show hRow (rk T R) R (I r) 6 = nI R.1 from rfl]
    refine r_iconst (v := nI 1) dX5_next_18 (by decide) ?_
    refine r_iadd dX5_next_19 ?_
    rw [nI_add]
    refine r_putI dX5_next_20 fl_X5_32 rfl rfl k0 ?_
    refine r_aload_n dX5_next_23 rfl ?_
    refine r_aload_n dX5_next_24 rfl ?_
    refine r_getR dX5_next_25 fl_X5_19 rfl (k0) (x2) ?_
    refine r_aload_n dX5_next_28 rfl ?_
    refine r_getI dX5_next_29 fl_X5_32 rfl k0 ?_
    rw [am_up_s, am_up_s]
    refine r_iald dX5_next_32 k2 (nI_in8 501 (by omega) (by decide)) (nI_clamp (by omega)) ?_
    rw [am_up_n _ _ (show r + 2 ≠ r by omega), rI_ne _ _ _ (Or.inr (by omega)) o1 o2, (hT _ (by omega)).1]
    refine r_putI dX5_next_33 fl_X5_35 rfl rfl k0 ?_
    rw [am_up_up, rI_up T R (R.1 + 1, R.2) I _ o1 o2 rfl (by rw [am_up_s, rI_rr _ _ _ o1 o2]; funext j; unfold hRow va_up; by_cases e6 : j = 6 <;> by_cases e7 : j = 7 <;> simp [e6, e7, rk])]
    refine r_vret rfl dX5_next_36 ?_
    exact am_is.mk
  · rw [if_neg hc]
    refine r_aload_n dX5_next_0 rfl ?_
    refine r_getI dX5_next_1 fl_X5_32 rfl (k0) ?_
    rw [rI_rr _ _ _ o1 o2, show hRow (rk T R) R (I r) 6 = nI R.1 from rfl]
    refine r_aload_n dX5_next_4 rfl ?_
    refine r_getI dX5_next_5 fl_X5_29 rfl (k0) ?_
    rw [rI_rr _ _ _ o1 o2, show hRow _ _ _ 5 = _ from i5]
    refine r_iconst (v := nI 1) dX5_next_8 (by decide) ?_
    refine r_isub dX5_next_9 ?_
    rw [pk_sub (by omega)]
    refine r_icmp_ge (tgt := 36) dX5_next_10 (by decide) (fun _ => ?_) (fun hz => absurd (show _ from (by rw [nI_leI (by omega) (by omega)]; omega)) hz)
    refine r_vret rfl dX5_next_36 ?_
    exact am_is.mk

theorem dX5_pass_0 : decode cX5_pass 0 = .ok (.aload_n 0, 1) := by decide +kernel
theorem dX5_pass_1 : decode cX5_pass 1 = .ok (.getfield 35, 3) := by decide +kernel
theorem dX5_pass_4 : decode cX5_pass 4 = .ok (.iload_n 1, 1) := by decide +kernel
theorem dX5_pass_5 : decode cX5_pass 5 = .ok (.if_icmp .eq 11, 3) := by decide +kernel
theorem dX5_pass_8 : decode cX5_pass 8 = .ok (.aload_n 0, 1) := by decide +kernel
theorem dX5_pass_9 : decode cX5_pass 9 = .ok (.iconst 1, 1) := by decide +kernel
theorem dX5_pass_10 : decode cX5_pass 10 = .ok (.invokevirtual 82, 3) := by decide +kernel
theorem dX5_pass_13 : decode cX5_pass 13 = .ok (.goto 7, 3) := by decide +kernel
theorem dX5_pass_16 : decode cX5_pass 16 = .ok (.aload_n 0, 1) := by decide +kernel
theorem dX5_pass_17 : decode cX5_pass 17 = .ok (.invokevirtual 152, 3) := by decide +kernel
theorem dX5_pass_20 : decode cX5_pass 20 = .ok (.return_, 1) := by decide +kernel
set_option maxHeartbeats 4000000 in
set_option maxRecDepth 100000 in
theorem c_X5_pass (r s l x XL : Nat) (T : RT) (R : RS) (w : Int32) {n : Nat} {kd : mK} {I : mI} {J : mJ} {P : mP} (hB : rOK kd P I r s l x XL T) (ha : R.1 < T.2.1) : Ct yX5_pass cX5_pass 2 none 2 0 0 [.ref r, .int w] n kd (rI r s l T (R) I) J P (am_is none n kd (rI r s l T (rPass T w R) I) J P) := by
  have hB0 := hB
  obtain ⟨⟨k0, k2, k3, k4⟩, ⟨x0, x2, x3, x4, x8, x9⟩, hS, hL, ⟨o1, o2⟩, ⟨kx, ox, xl⟩, ⟨i1, i5⟩, hT, ⟨t1, t2, t3, t4⟩, hBE, hX, hF⟩ := hB
  refine ct_of 0 (by decide +kernel) (Nat.le_of_ble_eq_true rfl) rfl ?_
  unfold rPass
  by_cases hc : rk T R = w
  · rw [if_pos hc]
    refine r_aload_n dX5_pass_0 rfl ?_
    refine r_getI dX5_pass_1 fl_X5_35 rfl (k0) ?_
    rw [rI_rr _ _ _ o1 o2, show hRow (rk T R) R (I r) 7 = rk T R from rfl]
    refine r_iload_n dX5_pass_4 rfl ?_
    refine r_icmp_eq (tgt := 16) dX5_pass_5 (by decide) (fun _ => ?_) (fun hz => absurd (show _ from hc) hz)
    refine r_aload_n dX5_pass_16 rfl ?_
    refine r_virtV (c_X5_next r s l x XL T R hB0 ha) lk_X5_152 mc_X5_next dX5_pass_17 k0 (by decide) rfl rfl (Nat.le_of_ble_eq_true rfl) ?_
    refine r_vret rfl dX5_pass_20 ?_
    exact am_is.mk
  · rw [if_neg hc]
    refine r_aload_n dX5_pass_0 rfl ?_
    refine r_getI dX5_pass_1 fl_X5_35 rfl (k0) ?_
    rw [rI_rr _ _ _ o1 o2, show hRow (rk T R) R (I r) 7 = rk T R from rfl]
    refine r_iload_n dX5_pass_4 rfl ?_
    refine r_icmp_eq (tgt := 16) dX5_pass_5 (by decide) (fun hz => absurd hz (show ¬ _ from hc)) (fun _ => ?_)
    refine r_aload_n dX5_pass_8 rfl ?_
    refine r_iconst (v := nI 1) dX5_pass_9 (by decide) ?_
    refine r_virtV (c_X5_fail r s l x XL T R (nI 1) hB0 ha) lk_X5_82 mc_X5_fail dX5_pass_10 k0 (by decide) rfl rfl (Nat.le_of_ble_eq_true rfl) ?_
    refine r_goto (tgt := 20) dX5_pass_13 (by decide) ?_
    refine r_vret rfl dX5_pass_20 ?_
    exact am_is.mk

set_option maxHeartbeats 4000000 in
set_option maxRecDepth 100000 in
theorem c_codeR (r s l x XL : Nat) (T : RT) (R : RS) (h : Nat) (c : Int32) {n : Nat} {kd : mK} {I : mI} {J : mJ} {P : mP} (hB : rOK kd P I r s l x XL T) (hi : rInv T h R) : Ct yX7_addCode cX7_addCode 2 none 1 0 0 [.ref s, .int c] n kd (rI r s l T (R) I) J P (am_is none n kd (rI r s l T (rCode c R) I) J P) := by
  have hB0 := hB
  obtain ⟨⟨k0, k2, k3, k4⟩, ⟨x0, x2, x3, x4, x8, x9⟩, hS, hL, ⟨o1, o2⟩, ⟨kx, ox, xl⟩, ⟨i1, i5⟩, hT, ⟨t1, t2, t3, t4⟩, hBE, hX, hF⟩ := hB
  obtain ⟨a, fk, fp, mt, so, de, ho, mo, un, ri, cd, tl, lo, co, cf, ct, tx, tf, tt⟩ := R
  exact c_X7_addCode s ho cd tl mo un ri lo co cf ct tx tf tt h c hS hi.2.1 hi.2.2.1 hi.2.2.2.1

set_option maxHeartbeats 4000000 in
set_option maxRecDepth 100000 in
theorem c_tokR (r s l x XL : Nat) (T : RT) (R : RS) (h : Nat) {n : Nat} {kd : mK} {I : mI} {J : mJ} {P : mP} (hB : rOK kd P I r s l x XL T) (hi : rInv T h R) : Ct yX7_addToken cX7_addToken 5 none 2 0 0 [.ref s, .ref x, .int (nI (T.2.2.2.1 R.1)), .int (nI (T.2.2.2.2.1 R.1))] n kd (rI r s l T (R) I) J P (am_is none n kd (rI r s l T (rTok T R) I) J P) := by
  have hB0 := hB
  obtain ⟨⟨k0, k2, k3, k4⟩, ⟨x0, x2, x3, x4, x8, x9⟩, hS, hL, ⟨o1, o2⟩, ⟨kx, ox, xl⟩, ⟨i1, i5⟩, hT, ⟨t1, t2, t3, t4⟩, hBE, hX, hF⟩ := hB
  obtain ⟨a, fk, fp, mt, so, de, ho, mo, un, ri, cd, tl, lo, co, cf, ct, tx, tf, tt⟩ := R
  obtain ⟨h0, h1, h2, h3, h4, f, h5, h6⟩ := hi
  have hbe := hBE a h0
  have e9 : lI l so de (hI r (rk T (a, fk, fp, mt, so, de, ho, mo, un, ri, cd, tl, lo, co, cf, ct, tx, tf, tt)) (a, fk, fp, mt, so, de, ho, mo, un, ri, cd, tl, lo, co, cf, ct, tx, tf, tt) I) x = T.2.2.2.2.2 := by
    rw [lI_ne _ _ _ (by omega) (by omega)]
    simp [hI, show x ≠ r by omega, hX]
  have hc := c_X7_addToken (n := n) (kd := kd) (J := J) (P := P) (I := lI l so de (hI r (rk T (a, fk, fp, mt, so, de, ho, mo, un, ri, cd, tl, lo, co, cf, ct, tx, tf, tt)) (a, fk, fp, mt, so, de, ho, mo, un, ri, cd, tl, lo, co, cf, ct, tx, tf, tt) I)) f s x XL (T.2.2.2.1 a) (T.2.2.2.2.1 a) h ho cd tl mo un ri lo co cf ct tx tf tt hS kx (by omega) xl hbe.1 (by omega) h1 h2 (fun i _ h => by rw [e9]; exact hF i (by omega)) h4 h6 h5
  rw [e9] at hc
  exact hc

section Rules
variable {Z : am_Z} {own : String} {cc : ByteArray} {nL : Nat} {ret : Option FieldType} {nm : String} {d kc ks pc : Nat} {post : am_Post} {ls : List (Option Value)} {st : List Value} {n : Nat} {kd : mK} {I : mI} {J : mJ} {P : mP}
theorem r_mmin {x y : Int32} {idx : Nat} (hd : decode cc pc = .ok (.invokestatic idx, 3)) (hlk : Cond.methodLink own idx Lib.Math.min.name ∈ gw) (hdd : 0 < d) (hw : (st.map fun v => v.category).sum ≤ 8) (k : RuZ Z own cc nL ret nm d post kc ks (pc + 3) ls (.int (if y < x then y else x) :: st) n kd I J P) : RuZ Z own cc nL ret nm d post kc ks pc ls (.int y :: .int x :: st) n kd I J P := by
  intro p l e R s m args below meth c MC MS A D cA ad Qc XC free H locs cells slots lsC C r wf wl ws hl hc hs he
  have hrm := cx_rm C
  exact va_mmin (cx_x C) (cx_b C) (by rw [cx_ml C, hl.1]) (cx_own C) (cx_ts C _ hlk) (cx_ts C _ (gt3 67 rfl rfl)) (cx_ts C _ (gt1 16 rfl rfl)) (cx_ts C _ (gt3 68 rfl rfl)) (by omega) (by rw [am_cats]; omega) (by omega) (by omega) hd (k p l e R s m args below meth c MC MS A D cA ad Qc XC free H locs cells slots lsC C r wf wl (ok_c am_ok_i (ok_t (ok_t ws))) hl hc hs he)
theorem r_mmax {x y : Int32} {idx : Nat} (hd : decode cc pc = .ok (.invokestatic idx, 3)) (hlk : Cond.methodLink own idx Lib.Math.max.name ∈ gw) (hdd : 0 < d) (hw : (st.map fun v => v.category).sum ≤ 8) (k : RuZ Z own cc nL ret nm d post kc ks (pc + 3) ls (.int (if x < y then y else x) :: st) n kd I J P) : RuZ Z own cc nL ret nm d post kc ks pc ls (.int y :: .int x :: st) n kd I J P := by
  intro p l e R s m args below meth c MC MS A D cA ad Qc XC free H locs cells slots lsC C r wf wl ws hl hc hs he
  have hrm := cx_rm C
  exact va_mmax (cx_x C) (cx_b C) (by rw [cx_ml C, hl.1]) (cx_own C) (cx_ts C _ hlk) (cx_ts C _ (gt5 26 rfl rfl)) (cx_ts C _ (gt1 16 rfl rfl)) (cx_ts C _ (gt5 27 rfl rfl)) (by omega) (by rw [am_cats]; omega) (by omega) (by omega) hd (k p l e R s m args below meth c MC MS A D cA ad Qc XC free H locs cells slots lsC C r wf wl (ok_c am_ok_i (ok_t (ok_t ws))) hl hc hs he)
theorem r_mabs {x : Int32} {idx : Nat} (hd : decode cc pc = .ok (.invokestatic idx, 3)) (hlk : Cond.methodLink own idx Lib.Math.abs.name ∈ gw) (hdd : 0 < d) (hw : (st.map fun v => v.category).sum ≤ 8) (k : RuZ Z own cc nL ret nm d post kc ks (pc + 3) ls (.int (if 0 ≤ x then x else 0 - x) :: st) n kd I J P) : RuZ Z own cc nL ret nm d post kc ks pc ls (.int x :: st) n kd I J P := by
  intro p l e R s m args below meth c MC MS A D cA ad Qc XC free H locs cells slots lsC C r wf wl ws hl hc hs he
  have hrm := cx_rm C
  exact va_mabs (cx_x C) (cx_b C) (by rw [cx_ml C, hl.1]) (cx_own C) (cx_ts C _ hlk) (cx_ts C _ (gt5 58 rfl rfl)) (cx_ts C _ (gt1 16 rfl rfl)) (cx_ts C _ (gt5 59 rfl rfl)) (by omega) (by rw [am_cats]; omega) (by omega) (by omega) hd (k p l e R s m args below meth c MC MS A D cA ad Qc XC free H locs cells slots lsC C r wf wl (ok_c am_ok_i (ok_t ws)) hl hc hs he)
end Rules
theorem mn_nI {x y : Nat} (hx : x < 2 ^ 31) (hy : y < 2 ^ 31) : (if nI y < nI x then nI y else nI x) = nI (min x y) := by
  by_cases h : y < x
  · rw [if_pos ((nI_ltI hy hx).mpr h), Nat.min_eq_right (by omega)]
  · rw [if_neg (fun z => h ((nI_ltI hy hx).mp z)), Nat.min_eq_left (by omega)]
theorem mx_nI {x y : Nat} (hx : x < 2 ^ 31) (hy : y < 2 ^ 31) : (if nI x < nI y then nI y else nI x) = nI (max x y) := by
  by_cases h : x < y
  · rw [if_pos ((nI_ltI hx hy).mpr h), Nat.max_eq_right (by omega)]
  · rw [if_neg (fun z => h ((nI_ltI hx hy).mp z)), Nat.max_eq_left (by omega)]
theorem mm_X5_56 : Cond.methodLink RX5 56 Lib.Math.min.name ∈ gw := (gt3 179 rfl rfl)
theorem mm_X3_26 : Cond.methodLink RX3 26 Lib.Math.min.name ∈ gw := (gt3 66 rfl rfl)
theorem mm_X3_62 : Cond.methodLink RX3 62 Lib.Math.max.name ∈ gw := (gt5 25 rfl rfl)
theorem dX5_take_0 : decode cX5_take 0 = .ok (.aload_n 0, 1) := by decide +kernel
theorem dX5_take_1 : decode cX5_take 1 = .ok (.getfield 38, 3) := by decide +kernel
theorem dX5_take_4 : decode cX5_take 4 = .ok (.aload_n 0, 1) := by decide +kernel
theorem dX5_take_5 : decode cX5_take 5 = .ok (.getfield 9, 3) := by decide +kernel
theorem dX5_take_8 : decode cX5_take 8 = .ok (.aload_n 0, 1) := by decide +kernel
theorem dX5_take_9 : decode cX5_take 9 = .ok (.getfield 23, 3) := by decide +kernel
theorem dX5_take_12 : decode cX5_take 12 = .ok (.aload_n 0, 1) := by decide +kernel
theorem dX5_take_13 : decode cX5_take 13 = .ok (.getfield 32, 3) := by decide +kernel
theorem dX5_take_16 : decode cX5_take 16 = .ok (.iaload, 1) := by decide +kernel
theorem dX5_take_17 : decode cX5_take 17 = .ok (.aload_n 0, 1) := by decide +kernel
theorem dX5_take_18 : decode cX5_take 18 = .ok (.getfield 26, 3) := by decide +kernel
theorem dX5_take_21 : decode cX5_take 21 = .ok (.aload_n 0, 1) := by decide +kernel
theorem dX5_take_22 : decode cX5_take 22 = .ok (.getfield 32, 3) := by decide +kernel
theorem dX5_take_25 : decode cX5_take 25 = .ok (.iaload, 1) := by decide +kernel
theorem dX5_take_26 : decode cX5_take 26 = .ok (.aload_n 0, 1) := by decide +kernel
theorem dX5_take_27 : decode cX5_take 27 = .ok (.getfield 15, 3) := by decide +kernel
theorem dX5_take_30 : decode cX5_take 30 = .ok (.invokestatic 56, 3) := by decide +kernel
theorem dX5_take_33 : decode cX5_take 33 = .ok (.invokevirtual 177, 3) := by decide +kernel
theorem dX5_take_36 : decode cX5_take 36 = .ok (.aload_n 0, 1) := by decide +kernel
theorem dX5_take_37 : decode cX5_take 37 = .ok (.invokevirtual 152, 3) := by decide +kernel
theorem dX5_take_40 : decode cX5_take 40 = .ok (.return_, 1) := by decide +kernel
set_option maxHeartbeats 4000000 in
set_option maxRecDepth 100000 in
theorem c_X5_take (r s l x XL : Nat) (T : RT) (R : RS) (h : Nat) {n : Nat} {kd : mK} {I : mI} {J : mJ} {P : mP} (hB : rOK kd P I r s l x XL T) (hi : rInv T h R) : Ct yX5_take cX5_take 1 none 3 0 0 [.ref r] n kd (rI r s l T (R) I) J P (am_is none n kd (rI r s l T (rTake T R) I) J P) := by
  have hB0 := hB
  obtain ⟨⟨k0, k2, k3, k4⟩, ⟨x0, x2, x3, x4, x8, x9⟩, hS, hL, ⟨o1, o2⟩, ⟨kx, ox, xl⟩, ⟨i1, i5⟩, hT, ⟨t1, t2, t3, t4⟩, hBE, hX, hF⟩ := hB
  have ha := hi.1
  have hbe := hBE R.1 ha
  refine ct_of 0 (by decide +kernel) (Nat.le_of_ble_eq_true rfl) rfl ?_
  refine r_aload_n dX5_take_0 rfl ?_
  refine r_getR dX5_take_1 fl_X5_38 rfl (k0) (x8) ?_
  refine r_aload_n dX5_take_4 rfl ?_
  refine r_getR dX5_take_5 fl_X5_9 rfl (k0) (x0) ?_
  refine r_aload_n dX5_take_8 rfl ?_
  refine r_getR dX5_take_9 fl_X5_23 rfl (k0) (x3) ?_
  refine r_aload_n dX5_take_12 rfl ?_
  refine r_getI dX5_take_13 fl_X5_32 rfl (k0) ?_
  rw [rI_rr _ _ _ o1 o2, show hRow (rk T R) R (I r) 6 = nI R.1 from rfl]
  refine r_iald dX5_take_16 (k3) (nI_in8 501 (by omega) (by decide)) (nI_clamp (by omega)) ?_
  rw [rI_ne _ _ _ (Or.inr (by omega)) o1 o2, (hT _ (by omega)).2.1]
  refine r_aload_n dX5_take_17 rfl ?_
  refine r_getR dX5_take_18 fl_X5_26 rfl (k0) (x4) ?_
  refine r_aload_n dX5_take_21 rfl ?_
  refine r_getI dX5_take_22 fl_X5_32 rfl (k0) ?_
  rw [rI_rr _ _ _ o1 o2, show hRow (rk T R) R (I r) 6 = nI R.1 from rfl]
  refine r_iald dX5_take_25 (k4) (nI_in8 501 (by omega) (by decide)) (nI_clamp (by omega)) ?_
  rw [rI_ne _ _ _ (Or.inr (by omega)) o1 o2, (hT _ (by omega)).2.2]
  refine r_aload_n dX5_take_26 rfl ?_
  refine r_getI dX5_take_27 fl_X5_15 rfl (k0) ?_
  rw [rI_rr _ _ _ o1 o2, show hRow _ _ _ 1 = _ from i1]
  refine r_mmin dX5_take_30 mm_X5_56 (by decide) (Nat.le_of_ble_eq_true rfl) ?_
  rw [mn_nI (by omega) (by omega), Nat.min_eq_left hbe.2]
  refine r_virtV (c_tokR r s l x XL T R h hB0 hi) lk_X5_177 mc_X7_addToken dX5_take_33 hS.1 (by decide) rfl rfl (Nat.le_of_ble_eq_true rfl) ?_
  refine r_aload_n dX5_take_36 rfl ?_
  refine r_virtV (c_X5_next r s l x XL T (rTok T R) hB0 hi.tok.1) lk_X5_152 mc_X5_next dX5_take_37 k0 (by decide) rfl rfl (Nat.le_of_ble_eq_true rfl) ?_
  refine r_vret rfl dX5_take_40 ?_
  exact am_is.mk


/-! LINES READ -/
def SS.smo (v : Int32) (q : SS) : SS := match q with
  | (ho, mo, un, ri, cd, tl, lo, co, cf, ct, tx, tf, tt) => (ho, v, un, ri, cd, tl, lo, co, cf, ct, tx, tf, tt)
def SS.sun (v : Int32) (q : SS) : SS := match q with
  | (ho, mo, un, ri, cd, tl, lo, co, cf, ct, tx, tf, tt) => (ho, mo, v, ri, cd, tl, lo, co, cf, ct, tx, tf, tt)
def rQ (R : RS) : SS := R.2.2.2.2.2.2
def rMt (v : Int32) (R : RS) : RS := (R.1, R.2.1, R.2.2.1, v, R.2.2.2.2)
def rSo (h : Nat) (v : Int32) (R : RS) : RS := (R.1, R.2.1, R.2.2.1, R.2.2.2.1, va_up R.2.2.2.2.1 h v, R.2.2.2.2.2)
def rDe (h : Nat) (v : Int32) (R : RS) : RS := (R.1, R.2.1, R.2.2.1, R.2.2.2.1, R.2.2.2.2.1, va_up R.2.2.2.2.2.1 h v, R.2.2.2.2.2.2)
def lInv (T : RT) (R : RS) : Prop := R.1 < T.2.1 ∧ (rQ R).1 ≤ 8 ∧ (rQ R).2.2.2.2.1 ≤ 520 ∧ (rQ R).2.2.2.2.2.1 ≤ 1000
def rMost2 (T : RT) (R : RS) : RS := rNx T (rSt (rNumR T (nI 2) (nI 20) R) (SS.smo (rNumV T (nI 2) (nI 20) R) (rQ (rNumR T (nI 2) (nI 20) R))))
def rMost (T : RT) (R : RS) : RS := if ¬ R.2.2.2.1 = 0 then rFail T (nI 4) R else rMost2 T (rNx T (rMt (nI 1) R))
def rUnl (T : RT) (R : RS) : RS := if ¬ (rQ R).2.2.1 = 0 then rFail T (nI 4) R else rNx T (rSt R (SS.sun (nI 1) (rQ R)))
def rSays (T : RT) (h : Nat) (S : RS) : RS := if rk T S = nI 132 ∧ rf S = 0 then rExpr T h 6 (rSt (rNx T S) (SS.begin (rQ (rNx T S)))) else S
def rDebts (T : RT) (h : Nat) (S : RS) : RS := if rk T S = nI 2 ∧ rf S = 0 then rNx T (rDe h (rNumV T (nI 0) (nI 99) S) (rNumR T (nI 0) (nI 99) S)) else S
def rSons (T : RT) (h : Nat) (S : RS) : RS := if rk T S = nI 2 then rDebts T h (rNx T (rSo h (rNumV T (nI 0) (nI 99) S) (rNumR T (nI 0) (nI 99) S))) else S
def rHouse (T : RT) (R : RS) : RS := if 8 ≤ (rQ R).1 then rFail T (nI 2) R else rSays T (rQ R).1 (rSons T (rQ R).1 (rNx T (rSt R (SS.house (rQ R)))))
def rLine (T : RT) (R : RS) : RS := rPass T (nI 59) (if rk T R = nI 129 then rMost T R else if rk T R = nI 130 then rUnl T R else if rk T R = nI 131 then rHouse T R else rFail T (nI 1) R)
def rLines (T : RT) : Nat → RS → RS
  | 0, R => R
  | k + 1, R => if ¬ rk T R = 0 ∧ rf R = 0 then rLines T k (rLine T R) else R
section
variable {T : RT} {h : Nat} {R : RS}
theorem rNx_q : rQ (rNx T R) = rQ R := by unfold rNx; split <;> rfl
theorem rFail_q {f : Int32} : rQ (rFail T f R) = rQ R := by unfold rFail; split <;> rfl
theorem rNum_q {u v : Int32} : rQ (rNumR T u v R) = rQ R := by
  unfold rNumR
  split
  · rfl
  · split
    · exact rFail_q
    · split
      · exact rFail_q
      · split
        · exact rFail_q
        · rfl
theorem rNx_a (ha : R.1 < T.2.1) : (rNx T R).1 < T.2.1 := by unfold rNx; split; assumption; exact ha
theorem rFail_a {f : Int32} : (rFail T f R).1 = R.1 := by unfold rFail; split <;> rfl
theorem rNum_a {u v : Int32} : (rNumR T u v R).1 = R.1 := by
  unfold rNumR
  split
  · rfl
  · split
    · exact rFail_a
    · split
      · exact rFail_a
      · split
        · exact rFail_a
        · rfl
theorem rDebts_q : rQ (rDebts T h R) = rQ R := by
  unfold rDebts
  split
  · rw [rNx_q]; exact rNum_q
  · rfl
theorem rDebts_a (ha : R.1 < T.2.1) : (rDebts T h R).1 < T.2.1 := by
  unfold rDebts
  split
  · exact rNx_a (by show (rNumR T _ _ R).1 < _; rw [rNum_a]; exact ha)
  · exact ha
theorem rSons_q : rQ (rSons T h R) = rQ R := by
  unfold rSons
  split
  · rw [rDebts_q, rNx_q]; exact rNum_q
  · rfl
theorem rSons_a (ha : R.1 < T.2.1) : (rSons T h R).1 < T.2.1 := by
  unfold rSons
  split
  · exact rDebts_a (rNx_a (by show (rNumR T _ _ R).1 < _; rw [rNum_a]; exact ha))
  · exact ha
theorem rInv.line (hi : rInv T h R) : lInv T R := ⟨hi.1, by show R.2.2.2.2.2.2.1 ≤ 8; rw [hi.2.1]; have := hi.2.2.1; omega, hi.2.2.2.1, hi.2.2.2.2.1⟩
/-- a house that was just added, and its riddle begun -/
theorem house_begin {q : SS} (h1 : q.1 < 8) (h2 : q.2.2.2.2.1 ≤ 520) (h3 : q.2.2.2.2.2.1 ≤ 1000) : SS.ok q.1 (SS.house q) ∧ SS.ok q.1 (SS.begin (SS.house q)) ∧ (SS.house q).2.2.2.2.2.2.2.2.1 q.1 = nI q.2.2.2.2.1 := by
  obtain ⟨ho, mo, un, ri, cd, tl, lo, co, cf, ct, tx, tf, tt⟩ := q
  simp only [SS.house] at *
  rw [if_pos h1]
  refine ⟨⟨rfl, h1, h2, h3, tl, Nat.le_refl _, am_up_s _ _ _⟩, ?_, am_up_s _ _ _⟩
  simp only [SS.begin]
  rw [if_neg (by omega), Nat.add_sub_cancel, am_up_s, nI_clamp (by omega)]
  exact ⟨rfl, h1, h2, h3, tl, Nat.le_refl _, am_up_s _ _ _⟩
theorem rSays_inv (h8 : h < 8) (ha : R.1 < T.2.1) (hq : SS.ok h (rQ R)) (hb : SS.ok h (SS.begin (rQ R))) : lInv T (rSays T h R) := by
  unfold rSays
  split
  · have hb2 : SS.ok h (SS.begin (rQ (rNx T R))) := by rw [rNx_q]; exact hb
    have hi : rInv T h (rSt (rNx T R) (SS.begin (rQ (rNx T R)))) := ⟨rNx_a ha, hb2⟩
    exact rInv.line (rExpr_inv 6 (rSt (rNx T R) (SS.begin (rQ (rNx T R)))) hi)
  · exact rInv.line ⟨ha, hq⟩
theorem rLine_inv (hi : lInv T R) : lInv T (rLine T R) := by
  have hp : ∀ S, lInv T S → lInv T (rPass T (nI 59) S) := fun S hS => by
    unfold rPass
    split
    · exact ⟨rNx_a hS.1, by rw [rNx_q]; exact hS.2⟩
    · exact ⟨by rw [rFail_a]; exact hS.1, by rw [rFail_q]; exact hS.2⟩
  have hf : ∀ f, lInv T (rFail T f R) := fun f => ⟨by rw [rFail_a]; exact hi.1, by rw [rFail_q]; exact hi.2⟩
  refine hp _ ?_
  split
  · unfold rMost rMost2
    split
    · exact hf _
    · refine ⟨rNx_a (by show (rNumR T _ _ _).1 < _; rw [rNum_a]; exact rNx_a hi.1), ?_⟩
      rw [rNx_q]
      show (SS.smo _ (rQ (rNumR T (nI 2) (nI 20) (rNx T (rMt (nI 1) R))))).1 ≤ 8 ∧ (SS.smo _ (rQ (rNumR T (nI 2) (nI 20) (rNx T (rMt (nI 1) R))))).2.2.2.2.1 ≤ 520 ∧ (SS.smo _ (rQ (rNumR T (nI 2) (nI 20) (rNx T (rMt (nI 1) R))))).2.2.2.2.2.1 ≤ 1000
      rw [rNum_q, rNx_q]
      exact hi.2
  split
  · unfold rUnl
    split
    · exact hf _
    · refine ⟨rNx_a hi.1, ?_⟩
      rw [rNx_q]
      exact hi.2
  split
  · unfold rHouse
    split
    · exact hf _
    · rename_i h8
      have h8 : (rQ R).1 < 8 := by omega
      have hb := house_begin h8 hi.2.2.1 hi.2.2.2
      have hq : rQ (rSons T (rQ R).1 (rNx T (rSt R (SS.house (rQ R))))) = SS.house (rQ R) := by rw [rSons_q, rNx_q]; rfl
      exact rSays_inv h8 (rSons_a (rNx_a hi.1)) (by rw [hq]; exact hb.1) (by rw [hq]; exact hb.2.1)
  · exact hf _
theorem rLines_inv : ∀ (k : Nat) (R : RS), lInv T R → lInv T (rLines T k R)
  | 0, R, hi => hi
  | k + 1, R, hi => by
    unfold rLines
    split
    · exact rLines_inv k _ (rLine_inv hi)
    · exact hi
end
section
variable {r s l : Nat} {T : RT} {R : RS} {I : mI} (o1 : s + 9 < l) (o2 : l + 5 < r)
theorem rI_s2 : rI r s l T R I s 2 = (rQ R).2.2.1 := by
  obtain ⟨a, fk, fp, mt, so, de, ho, mo, un, ri, cd, tl, lo, co, cf, ct, tx, tf, tt⟩ := R
  exact sI_un s _
theorem rI_pmo (v : Int32) : va_up (rI r s l T R I) s (va_up (rI r s l T R I s) 1 v) = rI r s l T (rSt R (SS.smo v (rQ R))) I := by
  obtain ⟨a, fk, fp, mt, so, de, ho, mo, un, ri, cd, tl, lo, co, cf, ct, tx, tf, tt⟩ := R
  exact sI_pmo s _ v
theorem rI_pun (v : Int32) : va_up (rI r s l T R I) s (va_up (rI r s l T R I s) 2 v) = rI r s l T (rSt R (SS.sun v (rQ R))) I := by
  obtain ⟨a, fk, fp, mt, so, de, ho, mo, un, ri, cd, tl, lo, co, cf, ct, tx, tf, tt⟩ := R
  exact sI_pun s _ v
theorem rI_so {r s l : Nat} {T : RT} {R : RS} {I : mI} (h : Nat) (v : Int32) (o1 : s + 9 < l) : va_up (rI r s l T R I) (l + 1) (va_up (rI r s l T R I (l + 1)) h v) = rI r s l T (rSo h v R) I := by
  obtain ⟨a, fk, fp, mt, so, de, q⟩ := R
  unfold rI
  rw [sI_out _ _ _ (by omega), sI_ne _ _ (by omega)]
  dsimp only [rSo, rk]
  congr 1
  funext x
  by_cases hx : x = l + 1
  · subst hx; rw [am_up_s]; simp [lI]
  · rw [am_up_n _ _ hx]; simp only [lI, hx, if_false, hI]; rfl
theorem rI_de {r s l : Nat} {T : RT} {R : RS} {I : mI} (h : Nat) (v : Int32) (o1 : s + 9 < l) : va_up (rI r s l T R I) (l + 2) (va_up (rI r s l T R I (l + 2)) h v) = rI r s l T (rDe h v R) I := by
  obtain ⟨a, fk, fp, mt, so, de, q⟩ := R
  unfold rI
  rw [sI_out _ _ _ (by omega), sI_ne _ _ (by omega)]
  dsimp only [rDe, rk]
  congr 1
  funext x
  by_cases hx : x = l + 2
  · subst hx; rw [am_up_s]; simp [lI]
  · rw [am_up_n _ _ hx]; simp only [lI, hx, if_false, hI]; rfl
end
set_option maxHeartbeats 4000000 in
set_option maxRecDepth 100000 in
theorem c_houseR (r s l x XL : Nat) (T : RT) (R : RS) {n : Nat} {kd : mK} {I : mI} {J : mJ} {P : mP} (hB : rOK kd P I r s l x XL T) (h8 : (rQ R).1 ≤ 8) : Ct yX7_addHouse cX7_addHouse 1 none 1 0 0 [.ref s] n kd (rI r s l T (R) I) J P (am_is none n kd (rI r s l T (rSt R (SS.house (rQ R))) I) J P) := by
  have hB0 := hB
  obtain ⟨⟨k0, k2, k3, k4⟩, ⟨x0, x2, x3, x4, x8, x9⟩, hS, hL, ⟨o1, o2⟩, ⟨kx, ox, xl⟩, ⟨i1, i5⟩, hT, ⟨t1, t2, t3, t4⟩, hBE, hX, hF⟩ := hB
  obtain ⟨a, fk, fp, mt, so, de, ho, mo, un, ri, cd, tl, lo, co, cf, ct, tx, tf, tt⟩ := R
  exact c_X7_addHouse s ho cd tl mo un ri lo co cf ct tx tf tt hS h8

set_option maxHeartbeats 4000000 in
set_option maxRecDepth 100000 in
theorem c_beginR (r s l x XL : Nat) (T : RT) (R : RS) (h c : Nat) {n : Nat} {kd : mK} {I : mI} {J : mJ} {P : mP} (hB : rOK kd P I r s l x XL T) (h1 : (rQ R).1 = h + 1) (h8 : h < 8) (hc : (rQ R).2.2.2.2.2.2.2.2.1 h = nI c) (hc2 : c < 2 ^ 31) : Ct yX7_beginRiddle cX7_beginRiddle 2 none 1 0 0 [.ref s] n kd (rI r s l T (R) I) J P (am_is none n kd (rI r s l T (rSt R (SS.begin (rQ R))) I) J P) := by
  have hB0 := hB
  obtain ⟨⟨k0, k2, k3, k4⟩, ⟨x0, x2, x3, x4, x8, x9⟩, hS, hL, ⟨o1, o2⟩, ⟨kx, ox, xl⟩, ⟨i1, i5⟩, hT, ⟨t1, t2, t3, t4⟩, hBE, hX, hF⟩ := hB
  obtain ⟨a, fk, fp, mt, so, de, ho, mo, un, ri, cd, tl, lo, co, cf, ct, tx, tf, tt⟩ := R
  exact c_X7_beginRiddle s ho cd tl mo un ri lo co cf ct tx tf tt h c hS h1 h8 hc hc2

set_option maxHeartbeats 4000000 in
set_option maxRecDepth 100000 in
theorem c_soR (r s l x XL : Nat) (T : RT) (R : RS) (h : Nat) (v : Int32) {n : Nat} {kd : mK} {I : mI} {J : mJ} {P : mP} (hB : rOK kd P I r s l x XL T) (h8 : h < 8) : Ct yX2_put cX2_put 4 none 1 0 0 [.ref l, .int (nI 0), .int (nI h), .int v] n kd (rI r s l T (R) I) J P (am_is none n kd (rI r s l T (rSo h v R) I) J P) := by
  have hB0 := hB
  obtain ⟨⟨k0, k2, k3, k4⟩, ⟨x0, x2, x3, x4, x8, x9⟩, hS, hL, ⟨o1, o2⟩, ⟨kx, ox, xl⟩, ⟨i1, i5⟩, hT, ⟨t1, t2, t3, t4⟩, hBE, hX, hF⟩ := hB
  have hc := c_X2_put (n := n) (I := rI r s l T R I) (J := J) l h (nI 0) v hL h8
  unfold putL at hc
  rw [if_pos (by decide), rI_so h v o1] at hc
  exact hc

set_option maxHeartbeats 4000000 in
set_option maxRecDepth 100000 in
theorem c_deR (r s l x XL : Nat) (T : RT) (R : RS) (h : Nat) (v : Int32) {n : Nat} {kd : mK} {I : mI} {J : mJ} {P : mP} (hB : rOK kd P I r s l x XL T) (h8 : h < 8) : Ct yX2_put cX2_put 4 none 1 0 0 [.ref l, .int (nI 1), .int (nI h), .int v] n kd (rI r s l T (R) I) J P (am_is none n kd (rI r s l T (rDe h v R) I) J P) := by
  have hB0 := hB
  obtain ⟨⟨k0, k2, k3, k4⟩, ⟨x0, x2, x3, x4, x8, x9⟩, hS, hL, ⟨o1, o2⟩, ⟨kx, ox, xl⟩, ⟨i1, i5⟩, hT, ⟨t1, t2, t3, t4⟩, hBE, hX, hF⟩ := hB
  have hc := c_X2_put (n := n) (I := rI r s l T R I) (J := J) l h (nI 1) v hL h8
  unfold putL at hc
  rw [if_neg (by decide), if_pos rfl, rI_de h v o1] at hc
  exact hc

theorem dX5_readMost_0 : decode cX5_readMost 0 = .ok (.aload_n 0, 1) := by decide +kernel
theorem dX5_readMost_1 : decode cX5_readMost 1 = .ok (.getfield 46, 3) := by decide +kernel
theorem dX5_readMost_4 : decode cX5_readMost 4 = .ok (.ifCond .eq 9, 3) := by decide +kernel
theorem dX5_readMost_7 : decode cX5_readMost 7 = .ok (.aload_n 0, 1) := by decide +kernel
theorem dX5_readMost_8 : decode cX5_readMost 8 = .ok (.iconst 4, 1) := by decide +kernel
theorem dX5_readMost_9 : decode cX5_readMost 9 = .ok (.invokevirtual 82, 3) := by decide +kernel
theorem dX5_readMost_12 : decode cX5_readMost 12 = .ok (.return_, 1) := by decide +kernel
theorem dX5_readMost_13 : decode cX5_readMost 13 = .ok (.aload_n 0, 1) := by decide +kernel
theorem dX5_readMost_14 : decode cX5_readMost 14 = .ok (.iconst 1, 1) := by decide +kernel
theorem dX5_readMost_15 : decode cX5_readMost 15 = .ok (.putfield 46, 3) := by decide +kernel
theorem dX5_readMost_18 : decode cX5_readMost 18 = .ok (.aload_n 0, 1) := by decide +kernel
theorem dX5_readMost_19 : decode cX5_readMost 19 = .ok (.invokevirtual 152, 3) := by decide +kernel
theorem dX5_readMost_22 : decode cX5_readMost 22 = .ok (.aload_n 0, 1) := by decide +kernel
theorem dX5_readMost_23 : decode cX5_readMost 23 = .ok (.getfield 38, 3) := by decide +kernel
theorem dX5_readMost_26 : decode cX5_readMost 26 = .ok (.aload_n 0, 1) := by decide +kernel
theorem dX5_readMost_27 : decode cX5_readMost 27 = .ok (.iconst 2, 1) := by decide +kernel
theorem dX5_readMost_28 : decode cX5_readMost 28 = .ok (.bipush 20, 2) := by decide +kernel
theorem dX5_readMost_30 : decode cX5_readMost 30 = .ok (.invokevirtual 155, 3) := by decide +kernel
theorem dX5_readMost_33 : decode cX5_readMost 33 = .ok (.putfield 158, 3) := by decide +kernel
theorem dX5_readMost_36 : decode cX5_readMost 36 = .ok (.aload_n 0, 1) := by decide +kernel
theorem dX5_readMost_37 : decode cX5_readMost 37 = .ok (.invokevirtual 152, 3) := by decide +kernel
theorem dX5_readMost_40 : decode cX5_readMost 40 = .ok (.return_, 1) := by decide +kernel
set_option maxHeartbeats 4000000 in
set_option maxRecDepth 100000 in
theorem c_X5_readMost (r s l x XL : Nat) (T : RT) (R : RS) {n : Nat} {kd : mK} {I : mI} {J : mJ} {P : mP} (hB : rOK kd P I r s l x XL T) (ha : R.1 < T.2.1) : Ct yX5_readMost cX5_readMost 1 none 3 0 0 [.ref r] n kd (rI r s l T (R) I) J P (am_is none n kd (rI r s l T (rMost T R) I) J P) := by
  have hB0 := hB
  obtain ⟨⟨k0, k2, k3, k4⟩, ⟨x0, x2, x3, x4, x8, x9⟩, hS, hL, ⟨o1, o2⟩, ⟨kx, ox, xl⟩, ⟨i1, i5⟩, hT, ⟨t1, t2, t3, t4⟩, hBE, hX, hF⟩ := hB
  refine ct_of 0 (by decide +kernel) (Nat.le_of_ble_eq_true rfl) rfl ?_
  unfold rMost
  by_cases c : R.2.2.2.1 = 0
  · rw [if_neg (fun z => z c)]
    refine r_aload_n dX5_readMost_0 rfl ?_
    refine r_getI dX5_readMost_1 fl_X5_46 rfl (k0) ?_
    rw [rI_rr _ _ _ o1 o2, show hRow (rk T R) R (I r) 10 = R.2.2.2.1 from rfl]
    refine r_if_eq (tgt := 13) dX5_readMost_4 (by decide) (fun _ => ?_) (fun hz => absurd (show _ from c) hz)
    refine r_aload_n dX5_readMost_13 rfl ?_
    refine r_iconst (v := nI 1) dX5_readMost_14 (by decide) ?_
    refine r_putZ dX5_readMost_15 fl_X5_46 rfl rfl (Or.inr rfl) k0 ?_
    rw [rI_up T R (rMt (nI 1) R) I _ o1 o2 rfl (by rw [rI_rr _ _ _ o1 o2]; funext j; unfold hRow va_up; by_cases e10 : j = 10 <;> simp [e10, rk, rMt])]
    refine r_aload_n dX5_readMost_18 rfl ?_
    refine r_virtV (c_X5_next r s l x XL T (rMt (nI 1) R) hB0 (ha)) lk_X5_152 mc_X5_next dX5_readMost_19 k0 (by decide) rfl rfl (Nat.le_of_ble_eq_true rfl) ?_
    refine r_aload_n dX5_readMost_22 rfl ?_
    refine r_getR dX5_readMost_23 fl_X5_38 rfl (k0) (x8) ?_
    refine r_aload_n dX5_readMost_26 rfl ?_
    refine r_iconst (v := nI 2) dX5_readMost_27 (by decide) ?_
    refine r_bipush (v := nI 20) dX5_readMost_28 (by decide) ?_
    refine r_virtE (c_X5_numeral r s l x XL T (rNx T (rMt (nI 1) R)) (nI 2) (nI 20) hB0 (rNx_a ha)) lk_X5_155 mc_X5_numeral dX5_readMost_30 k0 (by decide) rfl rfl (Nat.le_of_ble_eq_true rfl) ?_
    refine r_putI dX5_readMost_33 fl_X5_158 rfl rfl hS.1 ?_
    rw [rI_pmo]
    refine r_aload_n dX5_readMost_36 rfl ?_
    refine r_virtV (c_X5_next r s l x XL T (rSt (rNumR T (nI 2) (nI 20) (rNx T (rMt (nI 1) R))) (SS.smo (rNumV T (nI 2) (nI 20) (rNx T (rMt (nI 1) R))) (rQ (rNumR T (nI 2) (nI 20) (rNx T (rMt (nI 1) R)))))) hB0 (by show (rNumR T _ _ _).1 < _; rw [rNum_a]; exact rNx_a ha)) lk_X5_152 mc_X5_next dX5_readMost_37 k0 (by decide) rfl rfl (Nat.le_of_ble_eq_true rfl) ?_
    refine r_vret rfl dX5_readMost_40 ?_
    exact am_is.mk
  · rw [if_pos c]
    refine r_aload_n dX5_readMost_0 rfl ?_
    refine r_getI dX5_readMost_1 fl_X5_46 rfl (k0) ?_
    rw [rI_rr _ _ _ o1 o2, show hRow (rk T R) R (I r) 10 = R.2.2.2.1 from rfl]
    refine r_if_eq (tgt := 13) dX5_readMost_4 (by decide) (fun hz => absurd hz (show ¬ _ from c)) (fun _ => ?_)
    refine r_aload_n dX5_readMost_7 rfl ?_
    refine r_iconst (v := nI 4) dX5_readMost_8 (by decide) ?_
    refine r_virtV (c_X5_fail r s l x XL T (R) (nI 4) hB0 (ha)) lk_X5_82 mc_X5_fail dX5_readMost_9 k0 (by decide) rfl rfl (Nat.le_of_ble_eq_true rfl) ?_
    refine r_vret rfl dX5_readMost_12 ?_
    exact am_is.mk

theorem dX5_readUnlike_0 : decode cX5_readUnlike 0 = .ok (.aload_n 0, 1) := by decide +kernel
theorem dX5_readUnlike_1 : decode cX5_readUnlike 1 = .ok (.getfield 38, 3) := by decide +kernel
theorem dX5_readUnlike_4 : decode cX5_readUnlike 4 = .ok (.getfield 160, 3) := by decide +kernel
theorem dX5_readUnlike_7 : decode cX5_readUnlike 7 = .ok (.ifCond .eq 9, 3) := by decide +kernel
theorem dX5_readUnlike_10 : decode cX5_readUnlike 10 = .ok (.aload_n 0, 1) := by decide +kernel
theorem dX5_readUnlike_11 : decode cX5_readUnlike 11 = .ok (.iconst 4, 1) := by decide +kernel
theorem dX5_readUnlike_12 : decode cX5_readUnlike 12 = .ok (.invokevirtual 82, 3) := by decide +kernel
theorem dX5_readUnlike_15 : decode cX5_readUnlike 15 = .ok (.return_, 1) := by decide +kernel
theorem dX5_readUnlike_16 : decode cX5_readUnlike 16 = .ok (.aload_n 0, 1) := by decide +kernel
theorem dX5_readUnlike_17 : decode cX5_readUnlike 17 = .ok (.getfield 38, 3) := by decide +kernel
theorem dX5_readUnlike_20 : decode cX5_readUnlike 20 = .ok (.iconst 1, 1) := by decide +kernel
theorem dX5_readUnlike_21 : decode cX5_readUnlike 21 = .ok (.putfield 160, 3) := by decide +kernel
theorem dX5_readUnlike_24 : decode cX5_readUnlike 24 = .ok (.aload_n 0, 1) := by decide +kernel
theorem dX5_readUnlike_25 : decode cX5_readUnlike 25 = .ok (.invokevirtual 152, 3) := by decide +kernel
theorem dX5_readUnlike_28 : decode cX5_readUnlike 28 = .ok (.return_, 1) := by decide +kernel
set_option maxHeartbeats 4000000 in
set_option maxRecDepth 100000 in
theorem c_X5_readUnlike (r s l x XL : Nat) (T : RT) (R : RS) {n : Nat} {kd : mK} {I : mI} {J : mJ} {P : mP} (hB : rOK kd P I r s l x XL T) (ha : R.1 < T.2.1) : Ct yX5_readUnlike cX5_readUnlike 1 none 2 0 0 [.ref r] n kd (rI r s l T (R) I) J P (am_is none n kd (rI r s l T (rUnl T R) I) J P) := by
  have hB0 := hB
  obtain ⟨⟨k0, k2, k3, k4⟩, ⟨x0, x2, x3, x4, x8, x9⟩, hS, hL, ⟨o1, o2⟩, ⟨kx, ox, xl⟩, ⟨i1, i5⟩, hT, ⟨t1, t2, t3, t4⟩, hBE, hX, hF⟩ := hB
  refine ct_of 0 (by decide +kernel) (Nat.le_of_ble_eq_true rfl) rfl ?_
  unfold rUnl
  by_cases c : (rQ R).2.2.1 = 0
  · rw [if_neg (fun z => z c)]
    refine r_aload_n dX5_readUnlike_0 rfl ?_
    refine r_getR dX5_readUnlike_1 fl_X5_38 rfl (k0) (x8) ?_
    refine r_getI dX5_readUnlike_4 fl_X5_160 rfl (hS.1) ?_
    rw [rI_s2]
    refine r_if_eq (tgt := 16) dX5_readUnlike_7 (by decide) (fun _ => ?_) (fun hz => absurd (show _ from c) hz)
    refine r_aload_n dX5_readUnlike_16 rfl ?_
    refine r_getR dX5_readUnlike_17 fl_X5_38 rfl (k0) (x8) ?_
    refine r_iconst (v := nI 1) dX5_readUnlike_20 (by decide) ?_
    refine r_putZ dX5_readUnlike_21 fl_X5_160 rfl rfl (by first | exact Or.inl rfl | exact Or.inr rfl | assumption) (hS.1) ?_
    rw [rI_pun]
    refine r_aload_n dX5_readUnlike_24 rfl ?_
    refine r_virtV (c_X5_next r s l x XL T (rSt R (SS.sun (nI 1) (rQ R))) hB0 (ha)) lk_X5_152 mc_X5_next dX5_readUnlike_25 k0 (by decide) rfl rfl (Nat.le_of_ble_eq_true rfl) ?_
    refine r_vret rfl dX5_readUnlike_28 ?_
    exact am_is.mk
  · rw [if_pos c]
    refine r_aload_n dX5_readUnlike_0 rfl ?_
    refine r_getR dX5_readUnlike_1 fl_X5_38 rfl (k0) (x8) ?_
    refine r_getI dX5_readUnlike_4 fl_X5_160 rfl (hS.1) ?_
    rw [rI_s2]
    refine r_if_eq (tgt := 16) dX5_readUnlike_7 (by decide) (fun hz => absurd hz (show ¬ _ from c)) (fun _ => ?_)
    refine r_aload_n dX5_readUnlike_10 rfl ?_
    refine r_iconst (v := nI 4) dX5_readUnlike_11 (by decide) ?_
    refine r_virtV (c_X5_fail r s l x XL T (R) (nI 4) hB0 (ha)) lk_X5_82 mc_X5_fail dX5_readUnlike_12 k0 (by decide) rfl rfl (Nat.le_of_ble_eq_true rfl) ?_
    refine r_vret rfl dX5_readUnlike_15 ?_
    exact am_is.mk

theorem dX5_readHouse_0 : decode cX5_readHouse 0 = .ok (.aload_n 0, 1) := by decide +kernel
theorem dX5_readHouse_1 : decode cX5_readHouse 1 = .ok (.getfield 38, 3) := by decide +kernel
theorem dX5_readHouse_4 : decode cX5_readHouse 4 = .ok (.getfield 162, 3) := by decide +kernel
theorem dX5_readHouse_7 : decode cX5_readHouse 7 = .ok (.istore_n 1, 1) := by decide +kernel
theorem dX5_readHouse_8 : decode cX5_readHouse 8 = .ok (.iload_n 1, 1) := by decide +kernel
theorem dX5_readHouse_9 : decode cX5_readHouse 9 = .ok (.bipush 8, 2) := by decide +kernel
theorem dX5_readHouse_11 : decode cX5_readHouse 11 = .ok (.if_icmp .lt 9, 3) := by decide +kernel
theorem dX5_readHouse_14 : decode cX5_readHouse 14 = .ok (.aload_n 0, 1) := by decide +kernel
theorem dX5_readHouse_15 : decode cX5_readHouse 15 = .ok (.iconst 2, 1) := by decide +kernel
theorem dX5_readHouse_16 : decode cX5_readHouse 16 = .ok (.invokevirtual 82, 3) := by decide +kernel
theorem dX5_readHouse_19 : decode cX5_readHouse 19 = .ok (.return_, 1) := by decide +kernel
theorem dX5_readHouse_20 : decode cX5_readHouse 20 = .ok (.aload_n 0, 1) := by decide +kernel
theorem dX5_readHouse_21 : decode cX5_readHouse 21 = .ok (.getfield 38, 3) := by decide +kernel
theorem dX5_readHouse_24 : decode cX5_readHouse 24 = .ok (.invokevirtual 165, 3) := by decide +kernel
theorem dX5_readHouse_27 : decode cX5_readHouse 27 = .ok (.aload_n 0, 1) := by decide +kernel
theorem dX5_readHouse_28 : decode cX5_readHouse 28 = .ok (.invokevirtual 152, 3) := by decide +kernel
theorem dX5_readHouse_31 : decode cX5_readHouse 31 = .ok (.aload_n 0, 1) := by decide +kernel
theorem dX5_readHouse_32 : decode cX5_readHouse 32 = .ok (.getfield 35, 3) := by decide +kernel
theorem dX5_readHouse_35 : decode cX5_readHouse 35 = .ok (.iconst 2, 1) := by decide +kernel
theorem dX5_readHouse_36 : decode cX5_readHouse 36 = .ok (.if_icmp .ne 58, 3) := by decide +kernel
theorem dX5_readHouse_39 : decode cX5_readHouse 39 = .ok (.aload_n 0, 1) := by decide +kernel
theorem dX5_readHouse_40 : decode cX5_readHouse 40 = .ok (.getfield 42, 3) := by decide +kernel
theorem dX5_readHouse_43 : decode cX5_readHouse 43 = .ok (.iconst 0, 1) := by decide +kernel
theorem dX5_readHouse_44 : decode cX5_readHouse 44 = .ok (.iload_n 1, 1) := by decide +kernel
theorem dX5_readHouse_45 : decode cX5_readHouse 45 = .ok (.aload_n 0, 1) := by decide +kernel
theorem dX5_readHouse_46 : decode cX5_readHouse 46 = .ok (.iconst 0, 1) := by decide +kernel
theorem dX5_readHouse_47 : decode cX5_readHouse 47 = .ok (.bipush 99, 2) := by decide +kernel
theorem dX5_readHouse_49 : decode cX5_readHouse 49 = .ok (.invokevirtual 155, 3) := by decide +kernel
theorem dX5_readHouse_52 : decode cX5_readHouse 52 = .ok (.invokevirtual 168, 3) := by decide +kernel
theorem dX5_readHouse_55 : decode cX5_readHouse 55 = .ok (.aload_n 0, 1) := by decide +kernel
theorem dX5_readHouse_56 : decode cX5_readHouse 56 = .ok (.invokevirtual 152, 3) := by decide +kernel
theorem dX5_readHouse_59 : decode cX5_readHouse 59 = .ok (.aload_n 0, 1) := by decide +kernel
theorem dX5_readHouse_60 : decode cX5_readHouse 60 = .ok (.getfield 35, 3) := by decide +kernel
theorem dX5_readHouse_63 : decode cX5_readHouse 63 = .ok (.iconst 2, 1) := by decide +kernel
theorem dX5_readHouse_64 : decode cX5_readHouse 64 = .ok (.if_icmp .ne 30, 3) := by decide +kernel
theorem dX5_readHouse_67 : decode cX5_readHouse 67 = .ok (.aload_n 0, 1) := by decide +kernel
theorem dX5_readHouse_68 : decode cX5_readHouse 68 = .ok (.getfield 50, 3) := by decide +kernel
theorem dX5_readHouse_71 : decode cX5_readHouse 71 = .ok (.ifCond .ne 23, 3) := by decide +kernel
theorem dX5_readHouse_74 : decode cX5_readHouse 74 = .ok (.aload_n 0, 1) := by decide +kernel
theorem dX5_readHouse_75 : decode cX5_readHouse 75 = .ok (.getfield 42, 3) := by decide +kernel
theorem dX5_readHouse_78 : decode cX5_readHouse 78 = .ok (.iconst 1, 1) := by decide +kernel
theorem dX5_readHouse_79 : decode cX5_readHouse 79 = .ok (.iload_n 1, 1) := by decide +kernel
theorem dX5_readHouse_80 : decode cX5_readHouse 80 = .ok (.aload_n 0, 1) := by decide +kernel
theorem dX5_readHouse_81 : decode cX5_readHouse 81 = .ok (.iconst 0, 1) := by decide +kernel
theorem dX5_readHouse_82 : decode cX5_readHouse 82 = .ok (.bipush 99, 2) := by decide +kernel
theorem dX5_readHouse_84 : decode cX5_readHouse 84 = .ok (.invokevirtual 155, 3) := by decide +kernel
theorem dX5_readHouse_87 : decode cX5_readHouse 87 = .ok (.invokevirtual 168, 3) := by decide +kernel
theorem dX5_readHouse_90 : decode cX5_readHouse 90 = .ok (.aload_n 0, 1) := by decide +kernel
theorem dX5_readHouse_91 : decode cX5_readHouse 91 = .ok (.invokevirtual 152, 3) := by decide +kernel
theorem dX5_readHouse_94 : decode cX5_readHouse 94 = .ok (.aload_n 0, 1) := by decide +kernel
theorem dX5_readHouse_95 : decode cX5_readHouse 95 = .ok (.getfield 35, 3) := by decide +kernel
theorem dX5_readHouse_98 : decode cX5_readHouse 98 = .ok (.sipush 132, 3) := by decide +kernel
theorem dX5_readHouse_101 : decode cX5_readHouse 101 = .ok (.if_icmp .ne 26, 3) := by decide +kernel
theorem dX5_readHouse_104 : decode cX5_readHouse 104 = .ok (.aload_n 0, 1) := by decide +kernel
theorem dX5_readHouse_105 : decode cX5_readHouse 105 = .ok (.getfield 50, 3) := by decide +kernel
theorem dX5_readHouse_108 : decode cX5_readHouse 108 = .ok (.ifCond .ne 19, 3) := by decide +kernel
theorem dX5_readHouse_111 : decode cX5_readHouse 111 = .ok (.aload_n 0, 1) := by decide +kernel
theorem dX5_readHouse_112 : decode cX5_readHouse 112 = .ok (.invokevirtual 152, 3) := by decide +kernel
theorem dX5_readHouse_115 : decode cX5_readHouse 115 = .ok (.aload_n 0, 1) := by decide +kernel
theorem dX5_readHouse_116 : decode cX5_readHouse 116 = .ok (.getfield 38, 3) := by decide +kernel
theorem dX5_readHouse_119 : decode cX5_readHouse 119 = .ok (.invokevirtual 171, 3) := by decide +kernel
theorem dX5_readHouse_122 : decode cX5_readHouse 122 = .ok (.aload_n 0, 1) := by decide +kernel
theorem dX5_readHouse_123 : decode cX5_readHouse 123 = .ok (.iconst 0, 1) := by decide +kernel
theorem dX5_readHouse_124 : decode cX5_readHouse 124 = .ok (.invokevirtual 174, 3) := by decide +kernel
theorem dX5_readHouse_127 : decode cX5_readHouse 127 = .ok (.return_, 1) := by decide +kernel

set_option maxHeartbeats 4000000 in
set_option maxRecDepth 100000 in
theorem wc_X5_readHouse (r s l x XL : Nat) (T : RT) (R : RS) (h c : Nat) {n : Nat} {kd : mK} {I : mI} {J : mJ} {P : mP} (hB : rOK kd P I r s l x XL T) (h8 : h < 8) (ha : R.1 < T.2.1) (hq : SS.ok h (rQ R)) (hb : SS.ok h (SS.begin (rQ R))) (hc : (rQ R).2.2.2.2.2.2.2.2.1 h = nI c) (hc2 : c < 2 ^ 31) : Ru yX5_readHouse.cls cX5_readHouse 2 none yX5_readHouse.name 60 (am_is none n kd (rI r s l T (rSays T h R) I) J P) 0 0 94 [some (.ref r), some (.int (nI h))] [] n kd (rI r s l T (R) I) J P := by
  have hB0 := hB
  obtain ⟨⟨k0, k2, k3, k4⟩, ⟨x0, x2, x3, x4, x8, x9⟩, hS, hL, ⟨o1, o2⟩, ⟨kx, ox, xl⟩, ⟨i1, i5⟩, hT, ⟨t1, t2, t3, t4⟩, hBE, hX, hF⟩ := hB
  unfold rSays
  by_cases c1 : rk T R = nI 132
  · by_cases c0 : rf R = 0
    · rw [if_pos ⟨c1, c0⟩]
      refine r_aload_n dX5_readHouse_94 rfl ?_
      refine r_getI dX5_readHouse_95 fl_X5_35 rfl (k0) ?_
      rw [rI_rr _ _ _ o1 o2, show hRow (rk T R) R (I r) 7 = rk T R from rfl]
      refine r_sipush (v := nI 132) dX5_readHouse_98 (by decide) ?_
      refine r_icmp_ne (tgt := 127) dX5_readHouse_101 (by decide) (fun hz => absurd (show _ from c1) hz) (fun _ => ?_)
      refine r_aload_n dX5_readHouse_104 rfl ?_
      refine r_getI dX5_readHouse_105 fl_X5_50 rfl (k0) ?_
      rw [rI_rr _ _ _ o1 o2, show hRow (rk T R) R (I r) 11 = rf R from rfl]
      refine r_if_ne (tgt := 127) dX5_readHouse_108 (by decide) (fun hz => absurd (show _ from c0) hz) (fun _ => ?_)
      refine r_aload_n dX5_readHouse_111 rfl ?_
      refine r_virtV (c_X5_next r s l x XL T (R) hB0 (ha)) lk_X5_152 mc_X5_next dX5_readHouse_112 k0 (by decide) rfl rfl (Nat.le_of_ble_eq_true rfl) ?_
      refine r_aload_n dX5_readHouse_115 rfl ?_
      refine r_getR dX5_readHouse_116 fl_X5_38 rfl (k0) (x8) ?_
      refine r_virtV (c_beginR r s l x XL T (rNx T R) h c hB0 (by rw [rNx_q]; exact hq.1) h8 (by rw [rNx_q]; exact hc) hc2) lk_X5_171 mc_X7_beginRiddle dX5_readHouse_119 hS.1 (by decide) rfl rfl (Nat.le_of_ble_eq_true rfl) ?_
      refine r_aload_n dX5_readHouse_122 rfl ?_
      refine r_iconst (v := nI 0) dX5_readHouse_123 (by decide) ?_
      refine r_virtV (c_X5_readExpression r s l x XL T h hB0 6 0 rfl (rSt (rNx T R) (SS.begin (rQ (rNx T R)))) ⟨rNx_a ha, by show SS.ok h (SS.begin (rQ (rNx T R))); rw [rNx_q]; exact hb⟩) lk_X5_174 mc_X5_readExpression dX5_readHouse_124 k0 (by decide) rfl rfl (Nat.le_of_ble_eq_true rfl) ?_
      refine r_vret rfl dX5_readHouse_127 ?_
      exact am_is.mk
    · rw [if_neg (fun z => c0 z.2)]
      refine r_aload_n dX5_readHouse_94 rfl ?_
      refine r_getI dX5_readHouse_95 fl_X5_35 rfl (k0) ?_
      rw [rI_rr _ _ _ o1 o2, show hRow (rk T R) R (I r) 7 = rk T R from rfl]
      refine r_sipush (v := nI 132) dX5_readHouse_98 (by decide) ?_
      refine r_icmp_ne (tgt := 127) dX5_readHouse_101 (by decide) (fun hz => absurd (show _ from c1) hz) (fun _ => ?_)
      refine r_aload_n dX5_readHouse_104 rfl ?_
      refine r_getI dX5_readHouse_105 fl_X5_50 rfl (k0) ?_
      rw [rI_rr _ _ _ o1 o2, show hRow (rk T R) R (I r) 11 = rf R from rfl]
      refine r_if_ne (tgt := 127) dX5_readHouse_108 (by decide) (fun _ => ?_) (fun hz => absurd hz (show ¬ _ from c0))
      refine r_vret rfl dX5_readHouse_127 ?_
      exact am_is.mk
  · rw [if_neg (fun z => c1 z.1)]
    refine r_aload_n dX5_readHouse_94 rfl ?_
    refine r_getI dX5_readHouse_95 fl_X5_35 rfl (k0) ?_
    rw [rI_rr _ _ _ o1 o2, show hRow (rk T R) R (I r) 7 = rk T R from rfl]
    refine r_sipush (v := nI 132) dX5_readHouse_98 (by decide) ?_
    refine r_icmp_ne (tgt := 127) dX5_readHouse_101 (by decide) (fun _ => ?_) (fun hz => absurd hz (show ¬ _ from c1))
    refine r_vret rfl dX5_readHouse_127 ?_
    exact am_is.mk

set_option maxHeartbeats 4000000 in
set_option maxRecDepth 100000 in
theorem wb_X5_readHouse (r s l x XL : Nat) (T : RT) (R : RS) (h c : Nat) {n : Nat} {kd : mK} {I : mI} {J : mJ} {P : mP} (hB : rOK kd P I r s l x XL T) (h8 : h < 8) (ha : R.1 < T.2.1) (hq : SS.ok h (rQ R)) (hb : SS.ok h (SS.begin (rQ R))) (hc : (rQ R).2.2.2.2.2.2.2.2.1 h = nI c) (hc2 : c < 2 ^ 31) : Ru yX5_readHouse.cls cX5_readHouse 2 none yX5_readHouse.name 60 (am_is none n kd (rI r s l T (rSays T h (rDebts T h R)) I) J P) 0 0 59 [some (.ref r), some (.int (nI h))] [] n kd (rI r s l T (R) I) J P := by
  have hB0 := hB
  obtain ⟨⟨k0, k2, k3, k4⟩, ⟨x0, x2, x3, x4, x8, x9⟩, hS, hL, ⟨o1, o2⟩, ⟨kx, ox, xl⟩, ⟨i1, i5⟩, hT, ⟨t1, t2, t3, t4⟩, hBE, hX, hF⟩ := hB
  unfold rDebts
  by_cases c1 : rk T R = nI 2
  · by_cases c0 : rf R = 0
    · rw [if_pos ⟨c1, c0⟩]
      refine r_aload_n dX5_readHouse_59 rfl ?_
      refine r_getI dX5_readHouse_60 fl_X5_35 rfl (k0) ?_
      rw [rI_rr _ _ _ o1 o2, show hRow (rk T R) R (I r) 7 = rk T R from rfl]
      refine r_iconst (v := nI 2) dX5_readHouse_63 (by decide) ?_
      refine r_icmp_ne (tgt := 94) dX5_readHouse_64 (by decide) (fun hz => absurd (show _ from c1) hz) (fun _ => ?_)
      refine r_aload_n dX5_readHouse_67 rfl ?_
      refine r_getI dX5_readHouse_68 fl_X5_50 rfl (k0) ?_
      rw [rI_rr _ _ _ o1 o2, show hRow (rk T R) R (I r) 11 = rf R from rfl]
      refine r_if_ne (tgt := 94) dX5_readHouse_71 (by decide) (fun hz => absurd (show _ from c0) hz) (fun _ => ?_)
      refine r_aload_n dX5_readHouse_74 rfl ?_
      refine r_getR dX5_readHouse_75 fl_X5_42 rfl (k0) (x9) ?_
      refine r_iconst (v := nI 1) dX5_readHouse_78 (by decide) ?_
      refine r_iload_n dX5_readHouse_79 rfl ?_
      refine r_aload_n dX5_readHouse_80 rfl ?_
      refine r_iconst (v := nI 0) dX5_readHouse_81 (by decide) ?_
      refine r_bipush (v := nI 99) dX5_readHouse_82 (by decide) ?_
      refine r_virtE (c_X5_numeral r s l x XL T (R) (nI 0) (nI 99) hB0 (ha)) lk_X5_155 mc_X5_numeral dX5_readHouse_84 k0 (by decide) rfl rfl (Nat.le_of_ble_eq_true rfl) ?_
      refine r_virtV (c_deR r s l x XL T (rNumR T (nI 0) (nI 99) R) h (rNumV T (nI 0) (nI 99) R) hB0 h8) lk_X5_168 mc_X2_put dX5_readHouse_87 hL.1 (by decide) rfl rfl (Nat.le_of_ble_eq_true rfl) ?_
      refine r_aload_n dX5_readHouse_90 rfl ?_
      refine r_virtV (c_X5_next r s l x XL T (rDe h (rNumV T (nI 0) (nI 99) R) (rNumR T (nI 0) (nI 99) R)) hB0 (by show (rNumR T _ _ R).1 < _; rw [rNum_a]; exact ha)) lk_X5_152 mc_X5_next dX5_readHouse_91 k0 (by decide) rfl rfl (Nat.le_of_ble_eq_true rfl) ?_
      exact wc_X5_readHouse r s l x XL T (rNx T (rDe h (rNumV T (nI 0) (nI 99) R) (rNumR T (nI 0) (nI 99) R))) h c hB0 h8 (rNx_a (by show (rNumR T _ _ R).1 < _; rw [rNum_a]; exact ha)) (by rw [rNx_q, show rQ (rDe h (rNumV T (nI 0) (nI 99) R) (rNumR T (nI 0) (nI 99) R)) = rQ R from rNum_q]; exact hq) (by rw [rNx_q, show rQ (rDe h (rNumV T (nI 0) (nI 99) R) (rNumR T (nI 0) (nI 99) R)) = rQ R from rNum_q]; exact hb) (by rw [rNx_q, show rQ (rDe h (rNumV T (nI 0) (nI 99) R) (rNumR T (nI 0) (nI 99) R)) = rQ R from rNum_q]; exact hc) hc2
    · rw [if_neg (fun z => c0 z.2)]
      refine r_aload_n dX5_readHouse_59 rfl ?_
      refine r_getI dX5_readHouse_60 fl_X5_35 rfl (k0) ?_
      rw [rI_rr _ _ _ o1 o2, show hRow (rk T R) R (I r) 7 = rk T R from rfl]
      refine r_iconst (v := nI 2) dX5_readHouse_63 (by decide) ?_
      refine r_icmp_ne (tgt := 94) dX5_readHouse_64 (by decide) (fun hz => absurd (show _ from c1) hz) (fun _ => ?_)
      refine r_aload_n dX5_readHouse_67 rfl ?_
      refine r_getI dX5_readHouse_68 fl_X5_50 rfl (k0) ?_
      rw [rI_rr _ _ _ o1 o2, show hRow (rk T R) R (I r) 11 = rf R from rfl]
      refine r_if_ne (tgt := 94) dX5_readHouse_71 (by decide) (fun _ => ?_) (fun hz => absurd hz (show ¬ _ from c0))
      exact wc_X5_readHouse r s l x XL T (R) h c hB0 h8 (ha) (by skip; exact hq) (by skip; exact hb) (by skip; exact hc) hc2
  · rw [if_neg (fun z => c1 z.1)]
    refine r_aload_n dX5_readHouse_59 rfl ?_
    refine r_getI dX5_readHouse_60 fl_X5_35 rfl (k0) ?_
    rw [rI_rr _ _ _ o1 o2, show hRow (rk T R) R (I r) 7 = rk T R from rfl]
    refine r_iconst (v := nI 2) dX5_readHouse_63 (by decide) ?_
    refine r_icmp_ne (tgt := 94) dX5_readHouse_64 (by decide) (fun _ => ?_) (fun hz => absurd hz (show ¬ _ from c1))
    exact wc_X5_readHouse r s l x XL T (R) h c hB0 h8 (ha) (by skip; exact hq) (by skip; exact hb) (by skip; exact hc) hc2

set_option maxHeartbeats 4000000 in
set_option maxRecDepth 100000 in
theorem wa_X5_readHouse (r s l x XL : Nat) (T : RT) (R : RS) (h c : Nat) {n : Nat} {kd : mK} {I : mI} {J : mJ} {P : mP} (hB : rOK kd P I r s l x XL T) (h8 : h < 8) (ha : R.1 < T.2.1) (hq : SS.ok h (rQ R)) (hb : SS.ok h (SS.begin (rQ R))) (hc : (rQ R).2.2.2.2.2.2.2.2.1 h = nI c) (hc2 : c < 2 ^ 31) : Ru yX5_readHouse.cls cX5_readHouse 2 none yX5_readHouse.name 60 (am_is none n kd (rI r s l T (rSays T h (rSons T h R)) I) J P) 0 0 31 [some (.ref r), some (.int (nI h))] [] n kd (rI r s l T (R) I) J P := by
  have hB0 := hB
  obtain ⟨⟨k0, k2, k3, k4⟩, ⟨x0, x2, x3, x4, x8, x9⟩, hS, hL, ⟨o1, o2⟩, ⟨kx, ox, xl⟩, ⟨i1, i5⟩, hT, ⟨t1, t2, t3, t4⟩, hBE, hX, hF⟩ := hB
  unfold rSons
  by_cases c1 : rk T R = nI 2
  · rw [if_pos c1]
    refine r_aload_n dX5_readHouse_31 rfl ?_
    refine r_getI dX5_readHouse_32 fl_X5_35 rfl (k0) ?_
    rw [rI_rr _ _ _ o1 o2, show hRow (rk T R) R (I r) 7 = rk T R from rfl]
    refine r_iconst (v := nI 2) dX5_readHouse_35 (by decide) ?_
    refine r_icmp_ne (tgt := 94) dX5_readHouse_36 (by decide) (fun hz => absurd (show _ from c1) hz) (fun _ => ?_)
    refine r_aload_n dX5_readHouse_39 rfl ?_
    refine r_getR dX5_readHouse_40 fl_X5_42 rfl (k0) (x9) ?_
    refine r_iconst (v := nI 0) dX5_readHouse_43 (by decide) ?_
    refine r_iload_n dX5_readHouse_44 rfl ?_
    refine r_aload_n dX5_readHouse_45 rfl ?_
    refine r_iconst (v := nI 0) dX5_readHouse_46 (by decide) ?_
    refine r_bipush (v := nI 99) dX5_readHouse_47 (by decide) ?_
    refine r_virtE (c_X5_numeral r s l x XL T (R) (nI 0) (nI 99) hB0 (ha)) lk_X5_155 mc_X5_numeral dX5_readHouse_49 k0 (by decide) rfl rfl (Nat.le_of_ble_eq_true rfl) ?_
    refine r_virtV (c_soR r s l x XL T (rNumR T (nI 0) (nI 99) R) h (rNumV T (nI 0) (nI 99) R) hB0 h8) lk_X5_168 mc_X2_put dX5_readHouse_52 hL.1 (by decide) rfl rfl (Nat.le_of_ble_eq_true rfl) ?_
    refine r_aload_n dX5_readHouse_55 rfl ?_
    refine r_virtV (c_X5_next r s l x XL T (rSo h (rNumV T (nI 0) (nI 99) R) (rNumR T (nI 0) (nI 99) R)) hB0 (by show (rNumR T _ _ R).1 < _; rw [rNum_a]; exact ha)) lk_X5_152 mc_X5_next dX5_readHouse_56 k0 (by decide) rfl rfl (Nat.le_of_ble_eq_true rfl) ?_
    exact wb_X5_readHouse r s l x XL T (rNx T (rSo h (rNumV T (nI 0) (nI 99) R) (rNumR T (nI 0) (nI 99) R))) h c hB0 h8 (rNx_a (by show (rNumR T _ _ R).1 < _; rw [rNum_a]; exact ha)) (by rw [rNx_q, show rQ (rSo h (rNumV T (nI 0) (nI 99) R) (rNumR T (nI 0) (nI 99) R)) = rQ R from rNum_q]; exact hq) (by rw [rNx_q, show rQ (rSo h (rNumV T (nI 0) (nI 99) R) (rNumR T (nI 0) (nI 99) R)) = rQ R from rNum_q]; exact hb) (by rw [rNx_q, show rQ (rSo h (rNumV T (nI 0) (nI 99) R) (rNumR T (nI 0) (nI 99) R)) = rQ R from rNum_q]; exact hc) hc2
  · rw [if_neg c1]
    refine r_aload_n dX5_readHouse_31 rfl ?_
    refine r_getI dX5_readHouse_32 fl_X5_35 rfl (k0) ?_
    rw [rI_rr _ _ _ o1 o2, show hRow (rk T R) R (I r) 7 = rk T R from rfl]
    refine r_iconst (v := nI 2) dX5_readHouse_35 (by decide) ?_
    refine r_icmp_ne (tgt := 94) dX5_readHouse_36 (by decide) (fun _ => ?_) (fun hz => absurd hz (show ¬ _ from c1))
    exact wc_X5_readHouse r s l x XL T (R) h c hB0 h8 (ha) (by skip; exact hq) (by skip; exact hb) (by skip; exact hc) hc2

set_option maxHeartbeats 4000000 in
set_option maxRecDepth 100000 in
theorem c_X5_readHouse (r s l x XL : Nat) (T : RT) (R : RS) {n : Nat} {kd : mK} {I : mI} {J : mJ} {P : mP} (hB : rOK kd P I r s l x XL T) (hi : lInv T R) : Ct yX5_readHouse cX5_readHouse 2 none 60 0 0 [.ref r] n kd (rI r s l T (R) I) J P (am_is none n kd (rI r s l T (rHouse T R) I) J P) := by
  have hB0 := hB
  obtain ⟨⟨k0, k2, k3, k4⟩, ⟨x0, x2, x3, x4, x8, x9⟩, hS, hL, ⟨o1, o2⟩, ⟨kx, ox, xl⟩, ⟨i1, i5⟩, hT, ⟨t1, t2, t3, t4⟩, hBE, hX, hF⟩ := hB
  refine ct_of 1 (by decide +kernel) (Nat.le_of_ble_eq_true rfl) rfl ?_
  have hi2 : (rQ R).1 ≤ 8 := hi.2.1
  unfold rHouse
  by_cases c8 : 8 ≤ (rQ R).1
  · rw [if_pos c8]
    refine r_aload_n dX5_readHouse_0 rfl ?_
    refine r_getR dX5_readHouse_1 fl_X5_38 rfl (k0) (x8) ?_
    refine r_getI dX5_readHouse_4 fl_X5_162 rfl (hS.1) ?_
    rw [rI_s0]
    refine r_istore_n dX5_readHouse_7 (by decide) ?_
    refine r_iload_n dX5_readHouse_8 rfl ?_
    refine r_bipush (v := nI 8) dX5_readHouse_9 (by decide) ?_
    refine r_icmp_lt (tgt := 20) dX5_readHouse_11 (by decide) (fun hz => absurd hz (show ¬ _ from by rw [show nI R.2.2.2.2.2.2.1 = nI (rQ R).1 from rfl, nI_ltI (show (rQ R).1 < 2 ^ 31 by omega) (by omega)]; omega)) (fun _ => ?_)
    refine r_aload_n dX5_readHouse_14 rfl ?_
    refine r_iconst (v := nI 2) dX5_readHouse_15 (by decide) ?_
    refine r_virtV (c_X5_fail r s l x XL T (R) (nI 2) hB0 (hi.1)) lk_X5_82 mc_X5_fail dX5_readHouse_16 k0 (by decide) rfl rfl (Nat.le_of_ble_eq_true rfl) ?_
    refine r_vret rfl dX5_readHouse_19 ?_
    exact am_is.mk
  · rw [if_neg c8]
    have h8 : (rQ R).1 < 8 := by omega
    have hb := house_begin h8 hi.2.2.1 hi.2.2.2
    have hn : rQ (rNx T (rSt R (SS.house (rQ R)))) = SS.house (rQ R) := rNx_q
    refine r_aload_n dX5_readHouse_0 rfl ?_
    refine r_getR dX5_readHouse_1 fl_X5_38 rfl (k0) (x8) ?_
    refine r_getI dX5_readHouse_4 fl_X5_162 rfl (hS.1) ?_
    rw [rI_s0]
    refine r_istore_n dX5_readHouse_7 (by decide) ?_
    refine r_iload_n dX5_readHouse_8 rfl ?_
    refine r_bipush (v := nI 8) dX5_readHouse_9 (by decide) ?_
    refine r_icmp_lt (tgt := 20) dX5_readHouse_11 (by decide) (fun _ => ?_) (fun hz => absurd (show _ from by rw [show nI R.2.2.2.2.2.2.1 = nI (rQ R).1 from rfl, nI_ltI (show (rQ R).1 < 2 ^ 31 by omega) (by omega)]; omega) hz)
    refine r_aload_n dX5_readHouse_20 rfl ?_
    refine r_getR dX5_readHouse_21 fl_X5_38 rfl (k0) (x8) ?_
    refine r_virtV (c_houseR r s l x XL T R hB0 hi2) lk_X5_165 mc_X7_addHouse dX5_readHouse_24 hS.1 (by decide) rfl rfl (Nat.le_of_ble_eq_true rfl) ?_
    refine r_aload_n dX5_readHouse_27 rfl ?_
    refine r_virtV (c_X5_next r s l x XL T (rSt R (SS.house (rQ R))) hB0 (hi.1)) lk_X5_152 mc_X5_next dX5_readHouse_28 k0 (by decide) rfl rfl (Nat.le_of_ble_eq_true rfl) ?_
    exact wa_X5_readHouse r s l x XL T (rNx T (rSt R (SS.house (rQ R)))) (rQ R).1 (rQ R).2.2.2.2.1 hB0 h8 (rNx_a hi.1) (by rw [hn]; exact hb.1) (by rw [hn]; exact hb.2.1) (by rw [hn]; exact hb.2.2) (by have := hi.2.2.1; omega)


/-! RIDDLES READ: parts, products, sums, tests, nots, ands, ors -/
def rClose (T : RT) (R : RS) : RS := if rf R = 0 ∧ ¬ rk T R = nI 41 then rFail T (nI 1) R else R
def rPart (T : RT) (h : Nat) (E : RS → RS) (R : RS) : RS :=
  if ¬ rf R = 0 then R
  else if rk T R = nI 2 then rTake T (rCode (rNumV T (nI 0) (nI 9999) R) (rNumR T (nI 0) (nI 9999) R))
  else if rk T R = nI 141 then rTake T (rCode (nI 10000 + rNumV T (nI 0) (nI 7) (rTake T R)) (rNumR T (nI 0) (nI 7) (rTake T R)))
  else if rk T R = nI 40 then rTake T (rClose T (E (rTake T R)))
  else if ¬ cov (rk T R) h = -1 then rTake T (rCode (cov (rk T R) h) R)
  else rFail T (if rk T R < nI 128 then nI 1 else nI 3) R
def rLoop (T : RT) (is : Int32 → Bool) (cd : Int32 → Int32) (sub : RS → RS) : Nat → RS → RS
  | 0, R => R
  | k + 1, R => if is (rk T R) = true ∧ rf R = 0 then rLoop T is cd sub k (rCode (cd (rk T R)) (sub (rTake T R))) else R
def is2 (a b : Nat) (k : Int32) : Bool := decide (k = nI a) || decide (k = nI b)
def cd2 (a u v : Nat) (k : Int32) : Int32 := if k = nI a then nI u else nI v
def is1 (a : Nat) (k : Int32) : Bool := decide (k = nI a)
def cd1 (u : Nat) (_ : Int32) : Int32 := nI u
def rProd (T : RT) (h : Nat) (E : RS → RS) (R : RS) : RS := rLoop T (is2 42 47) (cd2 42 20006 20007) (rPart T h E) 500 (rPart T h E R)
def rSum (T : RT) (h : Nat) (E : RS → RS) (R : RS) : RS := rLoop T (is2 43 45) (cd2 43 20004 20005) (rProd T h E) 500 (rProd T h E R)
def rTest2 (T : RT) (h : Nat) (E : RS → RS) (S : RS) : RS := if is2 60 61 (rk T S) = true ∧ rf S = 0 then rCode (cd2 60 20008 20009 (rk T S)) (rSum T h E (rTake T S)) else S
def rTest (T : RT) (h : Nat) (E : RS → RS) (R : RS) : RS := rTest2 T h E (rSum T h E R)
def rNots (T : RT) : Nat → Nat → RS → Nat × RS
  | 0, m, R => (m, R)
  | k + 1, m, R => if rk T R = nI 135 ∧ rf R = 0 then (if m = 6 then rNots T k m (rFail T (nI 2) R) else rNots T k (m + 1) (rTake T R)) else (m, R)
def rCodes (c : Int32) : Nat → RS → RS
  | 0, R => R
  | k + 1, R => rCodes c k (rCode c R)
def rNot (T : RT) (h : Nat) (E : RS → RS) (R : RS) : RS := rCodes (nI 20003) (rNots T 7 0 R).1 (rTest T h E (rNots T 7 0 R).2)
def rBoth (T : RT) (h : Nat) (E : RS → RS) (R : RS) : RS := rLoop T (is1 134) (cd1 20010) (rNot T h E) 500 (rNot T h E R)
def rExpr (T : RT) (h : Nat) : Nat → RS → RS
  | 0, R => rFail T (if rk T R = nI 2 ∨ ¬ rk T R < nI 128 ∨ rk T R = nI 40 then nI 2 else nI 1) R
  | k + 1, R => rLoop T (is1 133) (cd1 20011) (rBoth T h (rExpr T h k)) 500 (rBoth T h (rExpr T h k) R)
theorem rLoop_inv {T : RT} {h : Nat} {is : Int32 → Bool} {cd : Int32 → Int32} {sub : RS → RS} (hs : ∀ R, rInv T h R → rInv T h (sub R)) : ∀ (k : Nat) (R : RS), rInv T h R → rInv T h (rLoop T is cd sub k R)
  | 0, R, hi => hi
  | k + 1, R, hi => by
    unfold rLoop
    split
    · exact rLoop_inv hs k _ ((hs _ hi.take).code _)
    · exact hi
theorem rCodes_inv {T : RT} {h : Nat} {c : Int32} : ∀ (k : Nat) (R : RS), rInv T h R → rInv T h (rCodes c k R)
  | 0, R, hi => hi
  | k + 1, R, hi => rCodes_inv k _ (hi.code c)
theorem rNots_inv {T : RT} {h : Nat} : ∀ (k m : Nat) (R : RS), rInv T h R → rInv T h (rNots T k m R).2
  | 0, m, R, hi => hi
  | k + 1, m, R, hi => by
    unfold rNots
    split
    · split
      · exact rNots_inv k m _ (hi.fail _)
      · exact rNots_inv k (m + 1) _ hi.take
    · exact hi
theorem rNots_le {T : RT} : ∀ (k m : Nat) (R : RS), (rNots T k m R).1 ≤ m + k
  | 0, m, R => Nat.le_refl _
  | k + 1, m, R => by
    unfold rNots
    split
    · split
      · have := rNots_le (T := T) k m (rFail T (nI 2) R); omega
      · have := rNots_le (T := T) k (m + 1) (rTake T R); omega
    · show m ≤ _; omega
section
variable {T : RT} {h : Nat} {E : RS → RS} (hE : ∀ R, rInv T h R → rInv T h (E R))
theorem rClose_inv {T : RT} {h : Nat} {R : RS} (hi : rInv T h R) : rInv T h (rClose T R) := by
  unfold rClose
  split
  · exact hi.fail _
  · exact hi
theorem rPart_inv {T : RT} {h : Nat} {E : RS → RS} (hE : ∀ R, rInv T h R → rInv T h (E R)) (R : RS) (hi : rInv T h R) : rInv T h (rPart T h E R) := by
  unfold rPart
  split
  · exact hi
  split
  · exact ((hi.num _ _).code _).take
  split
  · exact ((hi.take.num _ _).code _).take
  split
  · exact (rClose_inv (hE _ hi.take)).take
  split
  · exact (hi.code _).take
  · exact hi.fail _
theorem rProd_inv {T : RT} {h : Nat} {E : RS → RS} (hE : ∀ R, rInv T h R → rInv T h (E R)) (R : RS) (hi : rInv T h R) : rInv T h (rProd T h E R) := rLoop_inv (rPart_inv hE) _ _ (rPart_inv hE R hi)
theorem rSum_inv {T : RT} {h : Nat} {E : RS → RS} (hE : ∀ R, rInv T h R → rInv T h (E R)) (R : RS) (hi : rInv T h R) : rInv T h (rSum T h E R) := rLoop_inv (rProd_inv hE) _ _ (rProd_inv hE R hi)
theorem rTest_inv {T : RT} {h : Nat} {E : RS → RS} (hE : ∀ R, rInv T h R → rInv T h (E R)) (R : RS) (hi : rInv T h R) : rInv T h (rTest T h E R) := by
  unfold rTest rTest2
  split
  · exact (rSum_inv hE _ (rSum_inv hE R hi).take).code _
  · exact rSum_inv hE R hi
theorem rNot_inv {T : RT} {h : Nat} {E : RS → RS} (hE : ∀ R, rInv T h R → rInv T h (E R)) (R : RS) (hi : rInv T h R) : rInv T h (rNot T h E R) := rCodes_inv _ _ (rTest_inv hE _ (rNots_inv 7 0 R hi))
theorem rBoth_inv {T : RT} {h : Nat} {E : RS → RS} (hE : ∀ R, rInv T h R → rInv T h (E R)) (R : RS) (hi : rInv T h R) : rInv T h (rBoth T h E R) := rLoop_inv (rNot_inv hE) _ _ (rNot_inv hE R hi)
theorem rExpr_inv {T : RT} {h : Nat} : ∀ (k : Nat) (R : RS), rInv T h R → rInv T h (rExpr T h k R)
  | 0, R, hi => hi.fail _
  | k + 1, R, hi => rLoop_inv (rBoth_inv (rExpr_inv k)) _ _ (rBoth_inv (rExpr_inv k) R hi)
end
theorem dX5_readPart_0 : decode cX5_readPart 0 = .ok (.aload_n 0, 1) := by decide +kernel
theorem dX5_readPart_1 : decode cX5_readPart 1 = .ok (.getfield 50, 3) := by decide +kernel
theorem dX5_readPart_4 : decode cX5_readPart 4 = .ok (.ifCond .eq 4, 3) := by decide +kernel
theorem dX5_readPart_7 : decode cX5_readPart 7 = .ok (.return_, 1) := by decide +kernel
theorem dX5_readPart_8 : decode cX5_readPart 8 = .ok (.aload_n 0, 1) := by decide +kernel
theorem dX5_readPart_9 : decode cX5_readPart 9 = .ok (.getfield 35, 3) := by decide +kernel
theorem dX5_readPart_12 : decode cX5_readPart 12 = .ok (.iconst 2, 1) := by decide +kernel
theorem dX5_readPart_13 : decode cX5_readPart 13 = .ok (.if_icmp .ne 25, 3) := by decide +kernel
theorem dX5_readPart_16 : decode cX5_readPart 16 = .ok (.aload_n 0, 1) := by decide +kernel
theorem dX5_readPart_17 : decode cX5_readPart 17 = .ok (.getfield 38, 3) := by decide +kernel
theorem dX5_readPart_20 : decode cX5_readPart 20 = .ok (.aload_n 0, 1) := by decide +kernel
theorem dX5_readPart_21 : decode cX5_readPart 21 = .ok (.iconst 0, 1) := by decide +kernel
theorem dX5_readPart_22 : decode cX5_readPart 22 = .ok (.sipush 9999, 3) := by decide +kernel
theorem dX5_readPart_25 : decode cX5_readPart 25 = .ok (.invokevirtual 155, 3) := by decide +kernel
theorem dX5_readPart_28 : decode cX5_readPart 28 = .ok (.invokevirtual 186, 3) := by decide +kernel
theorem dX5_readPart_31 : decode cX5_readPart 31 = .ok (.aload_n 0, 1) := by decide +kernel
theorem dX5_readPart_32 : decode cX5_readPart 32 = .ok (.invokevirtual 183, 3) := by decide +kernel
theorem dX5_readPart_35 : decode cX5_readPart 35 = .ok (.goto 135, 3) := by decide +kernel
theorem dX5_readPart_38 : decode cX5_readPart 38 = .ok (.aload_n 0, 1) := by decide +kernel
theorem dX5_readPart_39 : decode cX5_readPart 39 = .ok (.getfield 35, 3) := by decide +kernel
theorem dX5_readPart_42 : decode cX5_readPart 42 = .ok (.sipush 141, 3) := by decide +kernel
theorem dX5_readPart_45 : decode cX5_readPart 45 = .ok (.if_icmp .ne 32, 3) := by decide +kernel
theorem dX5_readPart_48 : decode cX5_readPart 48 = .ok (.aload_n 0, 1) := by decide +kernel
theorem dX5_readPart_49 : decode cX5_readPart 49 = .ok (.invokevirtual 183, 3) := by decide +kernel
theorem dX5_readPart_52 : decode cX5_readPart 52 = .ok (.aload_n 0, 1) := by decide +kernel
theorem dX5_readPart_53 : decode cX5_readPart 53 = .ok (.getfield 38, 3) := by decide +kernel
theorem dX5_readPart_56 : decode cX5_readPart 56 = .ok (.sipush 10000, 3) := by decide +kernel
theorem dX5_readPart_59 : decode cX5_readPart 59 = .ok (.aload_n 0, 1) := by decide +kernel
theorem dX5_readPart_60 : decode cX5_readPart 60 = .ok (.iconst 0, 1) := by decide +kernel
theorem dX5_readPart_61 : decode cX5_readPart 61 = .ok (.bipush 7, 2) := by decide +kernel
theorem dX5_readPart_63 : decode cX5_readPart 63 = .ok (.invokevirtual 155, 3) := by decide +kernel
theorem dX5_readPart_66 : decode cX5_readPart 66 = .ok (.iadd, 1) := by decide +kernel
theorem dX5_readPart_67 : decode cX5_readPart 67 = .ok (.invokevirtual 186, 3) := by decide +kernel
theorem dX5_readPart_70 : decode cX5_readPart 70 = .ok (.aload_n 0, 1) := by decide +kernel
theorem dX5_readPart_71 : decode cX5_readPart 71 = .ok (.invokevirtual 183, 3) := by decide +kernel
theorem dX5_readPart_74 : decode cX5_readPart 74 = .ok (.goto 96, 3) := by decide +kernel
theorem dX5_readPart_77 : decode cX5_readPart 77 = .ok (.aload_n 0, 1) := by decide +kernel
theorem dX5_readPart_78 : decode cX5_readPart 78 = .ok (.getfield 35, 3) := by decide +kernel
theorem dX5_readPart_81 : decode cX5_readPart 81 = .ok (.bipush 40, 2) := by decide +kernel
theorem dX5_readPart_83 : decode cX5_readPart 83 = .ok (.if_icmp .ne 42, 3) := by decide +kernel
theorem dX5_readPart_86 : decode cX5_readPart 86 = .ok (.aload_n 0, 1) := by decide +kernel
theorem dX5_readPart_87 : decode cX5_readPart 87 = .ok (.invokevirtual 183, 3) := by decide +kernel
theorem dX5_readPart_90 : decode cX5_readPart 90 = .ok (.aload_n 0, 1) := by decide +kernel
theorem dX5_readPart_91 : decode cX5_readPart 91 = .ok (.iload_n 1, 1) := by decide +kernel
theorem dX5_readPart_92 : decode cX5_readPart 92 = .ok (.iconst 1, 1) := by decide +kernel
theorem dX5_readPart_93 : decode cX5_readPart 93 = .ok (.iadd, 1) := by decide +kernel
theorem dX5_readPart_94 : decode cX5_readPart 94 = .ok (.invokevirtual 174, 3) := by decide +kernel
theorem dX5_readPart_97 : decode cX5_readPart 97 = .ok (.aload_n 0, 1) := by decide +kernel
theorem dX5_readPart_98 : decode cX5_readPart 98 = .ok (.getfield 50, 3) := by decide +kernel
theorem dX5_readPart_101 : decode cX5_readPart 101 = .ok (.ifCond .ne 17, 3) := by decide +kernel
theorem dX5_readPart_104 : decode cX5_readPart 104 = .ok (.aload_n 0, 1) := by decide +kernel
theorem dX5_readPart_105 : decode cX5_readPart 105 = .ok (.getfield 35, 3) := by decide +kernel
theorem dX5_readPart_108 : decode cX5_readPart 108 = .ok (.bipush 41, 2) := by decide +kernel
theorem dX5_readPart_110 : decode cX5_readPart 110 = .ok (.if_icmp .eq 8, 3) := by decide +kernel
theorem dX5_readPart_113 : decode cX5_readPart 113 = .ok (.aload_n 0, 1) := by decide +kernel
theorem dX5_readPart_114 : decode cX5_readPart 114 = .ok (.iconst 1, 1) := by decide +kernel
theorem dX5_readPart_115 : decode cX5_readPart 115 = .ok (.invokevirtual 82, 3) := by decide +kernel
theorem dX5_readPart_118 : decode cX5_readPart 118 = .ok (.aload_n 0, 1) := by decide +kernel
theorem dX5_readPart_119 : decode cX5_readPart 119 = .ok (.invokevirtual 183, 3) := by decide +kernel
theorem dX5_readPart_122 : decode cX5_readPart 122 = .ok (.goto 48, 3) := by decide +kernel
theorem dX5_readPart_125 : decode cX5_readPart 125 = .ok (.aload_n 0, 1) := by decide +kernel
theorem dX5_readPart_126 : decode cX5_readPart 126 = .ok (.invokevirtual 204, 3) := by decide +kernel
theorem dX5_readPart_129 : decode cX5_readPart 129 = .ok (.iconst (-1), 1) := by decide +kernel
theorem dX5_readPart_130 : decode cX5_readPart 130 = .ok (.if_icmp .eq 21, 3) := by decide +kernel
theorem dX5_readPart_133 : decode cX5_readPart 133 = .ok (.aload_n 0, 1) := by decide +kernel
theorem dX5_readPart_134 : decode cX5_readPart 134 = .ok (.getfield 38, 3) := by decide +kernel
theorem dX5_readPart_137 : decode cX5_readPart 137 = .ok (.aload_n 0, 1) := by decide +kernel
theorem dX5_readPart_138 : decode cX5_readPart 138 = .ok (.invokevirtual 204, 3) := by decide +kernel
theorem dX5_readPart_141 : decode cX5_readPart 141 = .ok (.invokevirtual 186, 3) := by decide +kernel
theorem dX5_readPart_144 : decode cX5_readPart 144 = .ok (.aload_n 0, 1) := by decide +kernel
theorem dX5_readPart_145 : decode cX5_readPart 145 = .ok (.invokevirtual 183, 3) := by decide +kernel
theorem dX5_readPart_148 : decode cX5_readPart 148 = .ok (.goto 22, 3) := by decide +kernel
theorem dX5_readPart_151 : decode cX5_readPart 151 = .ok (.aload_n 0, 1) := by decide +kernel
theorem dX5_readPart_152 : decode cX5_readPart 152 = .ok (.aload_n 0, 1) := by decide +kernel
theorem dX5_readPart_153 : decode cX5_readPart 153 = .ok (.getfield 35, 3) := by decide +kernel
theorem dX5_readPart_156 : decode cX5_readPart 156 = .ok (.sipush 128, 3) := by decide +kernel
theorem dX5_readPart_159 : decode cX5_readPart 159 = .ok (.if_icmp .lt 7, 3) := by decide +kernel
theorem dX5_readPart_162 : decode cX5_readPart 162 = .ok (.iconst 3, 1) := by decide +kernel
theorem dX5_readPart_163 : decode cX5_readPart 163 = .ok (.goto 4, 3) := by decide +kernel
theorem dX5_readPart_166 : decode cX5_readPart 166 = .ok (.iconst 1, 1) := by decide +kernel
theorem dX5_readPart_167 : decode cX5_readPart 167 = .ok (.invokevirtual 82, 3) := by decide +kernel
theorem dX5_readPart_170 : decode cX5_readPart 170 = .ok (.return_, 1) := by decide +kernel
set_option maxHeartbeats 4000000 in
set_option maxRecDepth 100000 in
theorem c_X5_readPart (r s l x XL : Nat) (T : RT) (h : Nat) {n : Nat} {kd : mK} {I : mI} {J : mJ} {P : mP} (D w : Nat) (E : RS → RS) (hD : 3 < D) (hw : w < 6) (hE : ∀ R, rInv T h R → rInv T h (E R)) (hEc : ∀ R, rInv T h R → Ct yX5_readExpression cX5_readExpression 3 none D 0 0 [.ref r, .int (nI (w + 1))] n kd (rI r s l T (R) I) J P (am_is none n kd (rI r s l T (E R) I) J P)) (R : RS) (hB : rOK kd P I r s l x XL T) (hi : rInv T h R) : Ct yX5_readPart cX5_readPart 2 none (D + 1) 0 0 [.ref r, .int (nI w)] n kd (rI r s l T (R) I) J P (am_is none n kd (rI r s l T (rPart T h E R) I) J P) := by
  have hB0 := hB
  obtain ⟨⟨k0, k2, k3, k4⟩, ⟨x0, x2, x3, x4, x8, x9⟩, hS, hL, ⟨o1, o2⟩, ⟨kx, ox, xl⟩, ⟨i1, i5⟩, hT, ⟨t1, t2, t3, t4⟩, hBE, hX, hF⟩ := hB
  refine ct_of 0 (by decide +kernel) (Nat.le_of_ble_eq_true rfl) rfl ?_
  unfold rPart
  by_cases g1 : ¬ rf R = 0
  · rw [if_pos g1]
    refine r_aload_n dX5_readPart_0 rfl ?_
    refine r_getI dX5_readPart_1 fl_X5_50 rfl (k0) ?_
    rw [rI_rr _ _ _ o1 o2, show hRow (rk T R) R (I r) 11 = rf R from rfl]
    refine r_if_eq (tgt := 8) dX5_readPart_4 (by decide) (fun hz => absurd hz (show ¬ _ from g1)) (fun _ => ?_)
    refine r_vret rfl dX5_readPart_7 ?_
    exact am_is.mk
  rw [if_neg g1]
  by_cases g2 : rk T R = nI 2
  · rw [if_pos g2]
    refine r_aload_n dX5_readPart_0 rfl ?_
    refine r_getI dX5_readPart_1 fl_X5_50 rfl (k0) ?_
    rw [rI_rr _ _ _ o1 o2, show hRow (rk T R) R (I r) 11 = rf R from rfl]
    refine r_if_eq (tgt := 8) dX5_readPart_4 (by decide) (fun _ => ?_) (fun hz => absurd (show _ from Decidable.not_not.mp g1) hz)
    refine r_aload_n dX5_readPart_8 rfl ?_
    refine r_getI dX5_readPart_9 fl_X5_35 rfl (k0) ?_
    rw [rI_rr _ _ _ o1 o2, show hRow (rk T R) R (I r) 7 = rk T R from rfl]
    refine r_iconst (v := nI 2) dX5_readPart_12 (by decide) ?_
    refine r_icmp_ne (tgt := 38) dX5_readPart_13 (by decide) (fun hz => absurd (show _ from g2) hz) (fun _ => ?_)
    refine r_aload_n dX5_readPart_16 rfl ?_
    refine r_getR dX5_readPart_17 fl_X5_38 rfl (k0) (x8) ?_
    refine r_aload_n dX5_readPart_20 rfl ?_
    refine r_iconst (v := nI 0) dX5_readPart_21 (by decide) ?_
    refine r_sipush (v := nI 9999) dX5_readPart_22 (by decide) ?_
    refine r_virtE (c_X5_numeral r s l x XL T (R) (nI 0) (nI 9999) hB0 hi.1) lk_X5_155 mc_X5_numeral dX5_readPart_25 k0 (by omega) rfl rfl (Nat.le_of_ble_eq_true rfl) ?_
    refine r_virtV (c_codeR r s l x XL T (rNumR T (nI 0) (nI 9999) R) h (rNumV T (nI 0) (nI 9999) R) hB0 (hi.num _ _)) lk_X5_186 mc_X7_addCode dX5_readPart_28 hS.1 (by omega) rfl rfl (Nat.le_of_ble_eq_true rfl) ?_
    refine r_aload_n dX5_readPart_31 rfl ?_
    refine r_virtV (c_X5_take r s l x XL T (rCode (rNumV T (nI 0) (nI 9999) R) (rNumR T (nI 0) (nI 9999) R)) h hB0 ((hi.num _ _).code _)) lk_X5_183 mc_X5_take dX5_readPart_32 k0 (by omega) rfl rfl (Nat.le_of_ble_eq_true rfl) ?_
    refine r_goto (tgt := 170) dX5_readPart_35 (by decide) ?_
    refine r_vret rfl dX5_readPart_170 ?_
    exact am_is.mk
  rw [if_neg g2]
  by_cases g3 : rk T R = nI 141
  · rw [if_pos g3]
    refine r_aload_n dX5_readPart_0 rfl ?_
    refine r_getI dX5_readPart_1 fl_X5_50 rfl (k0) ?_
    rw [rI_rr _ _ _ o1 o2, show hRow (rk T R) R (I r) 11 = rf R from rfl]
    refine r_if_eq (tgt := 8) dX5_readPart_4 (by decide) (fun _ => ?_) (fun hz => absurd (show _ from Decidable.not_not.mp g1) hz)
    refine r_aload_n dX5_readPart_8 rfl ?_
    refine r_getI dX5_readPart_9 fl_X5_35 rfl (k0) ?_
    rw [rI_rr _ _ _ o1 o2, show hRow (rk T R) R (I r) 7 = rk T R from rfl]
    refine r_iconst (v := nI 2) dX5_readPart_12 (by decide) ?_
    refine r_icmp_ne (tgt := 38) dX5_readPart_13 (by decide) (fun _ => ?_) (fun hz => absurd hz (show ¬ _ from g2))
    refine r_aload_n dX5_readPart_38 rfl ?_
    refine r_getI dX5_readPart_39 fl_X5_35 rfl (k0) ?_
    rw [rI_rr _ _ _ o1 o2, show hRow (rk T R) R (I r) 7 = rk T R from rfl]
    refine r_sipush (v := nI 141) dX5_readPart_42 (by decide) ?_
    refine r_icmp_ne (tgt := 77) dX5_readPart_45 (by decide) (fun hz => absurd (show _ from g3) hz) (fun _ => ?_)
    refine r_aload_n dX5_readPart_48 rfl ?_
    refine r_virtV (c_X5_take r s l x XL T (R) h hB0 hi) lk_X5_183 mc_X5_take dX5_readPart_49 k0 (by omega) rfl rfl (Nat.le_of_ble_eq_true rfl) ?_
    refine r_aload_n dX5_readPart_52 rfl ?_
    refine r_getR dX5_readPart_53 fl_X5_38 rfl (k0) (x8) ?_
    refine r_sipush (v := nI 10000) dX5_readPart_56 (by decide) ?_
    refine r_aload_n dX5_readPart_59 rfl ?_
    refine r_iconst (v := nI 0) dX5_readPart_60 (by decide) ?_
    refine r_bipush (v := nI 7) dX5_readPart_61 (by decide) ?_
    refine r_virtE (c_X5_numeral r s l x XL T (rTake T R) (nI 0) (nI 7) hB0 hi.take.1) lk_X5_155 mc_X5_numeral dX5_readPart_63 k0 (by omega) rfl rfl (Nat.le_of_ble_eq_true rfl) ?_
    refine r_iadd dX5_readPart_66 ?_
    refine r_virtV (c_codeR r s l x XL T (rNumR T (nI 0) (nI 7) (rTake T R)) h (nI 10000 + rNumV T (nI 0) (nI 7) (rTake T R)) hB0 (hi.take.num _ _)) lk_X5_186 mc_X7_addCode dX5_readPart_67 hS.1 (by omega) rfl rfl (Nat.le_of_ble_eq_true rfl) ?_
    refine r_aload_n dX5_readPart_70 rfl ?_
    refine r_virtV (c_X5_take r s l x XL T (rCode (nI 10000 + rNumV T (nI 0) (nI 7) (rTake T R)) (rNumR T (nI 0) (nI 7) (rTake T R))) h hB0 ((hi.take.num _ _).code _)) lk_X5_183 mc_X5_take dX5_readPart_71 k0 (by omega) rfl rfl (Nat.le_of_ble_eq_true rfl) ?_
    refine r_goto (tgt := 170) dX5_readPart_74 (by decide) ?_
    refine r_vret rfl dX5_readPart_170 ?_
    exact am_is.mk
  rw [if_neg g3]
  by_cases g4 : rk T R = nI 40
  · rw [if_pos g4]
    have hi4 := hE _ hi.take
    unfold rClose
    by_cases q1 : rf (E (rTake T R)) = 0
    · by_cases q2 : rk T (E (rTake T R)) = nI 41
      · rw [if_neg (fun z => z.2 q2)]
        refine r_aload_n dX5_readPart_0 rfl ?_
        refine r_getI dX5_readPart_1 fl_X5_50 rfl (k0) ?_
        rw [rI_rr _ _ _ o1 o2, show hRow (rk T R) R (I r) 11 = rf R from rfl]
        refine r_if_eq (tgt := 8) dX5_readPart_4 (by decide) (fun _ => ?_) (fun hz => absurd (show _ from Decidable.not_not.mp g1) hz)
        refine r_aload_n dX5_readPart_8 rfl ?_
        refine r_getI dX5_readPart_9 fl_X5_35 rfl (k0) ?_
        rw [rI_rr _ _ _ o1 o2, show hRow (rk T R) R (I r) 7 = rk T R from rfl]
        refine r_iconst (v := nI 2) dX5_readPart_12 (by decide) ?_
        refine r_icmp_ne (tgt := 38) dX5_readPart_13 (by decide) (fun _ => ?_) (fun hz => absurd hz (show ¬ _ from g2))
        refine r_aload_n dX5_readPart_38 rfl ?_
        refine r_getI dX5_readPart_39 fl_X5_35 rfl (k0) ?_
        rw [rI_rr _ _ _ o1 o2, show hRow (rk T R) R (I r) 7 = rk T R from rfl]
        refine r_sipush (v := nI 141) dX5_readPart_42 (by decide) ?_
        refine r_icmp_ne (tgt := 77) dX5_readPart_45 (by decide) (fun _ => ?_) (fun hz => absurd hz (show ¬ _ from g3))
        refine r_aload_n dX5_readPart_77 rfl ?_
        refine r_getI dX5_readPart_78 fl_X5_35 rfl (k0) ?_
        rw [rI_rr _ _ _ o1 o2, show hRow (rk T R) R (I r) 7 = rk T R from rfl]
        refine r_bipush (v := nI 40) dX5_readPart_81 (by decide) ?_
        refine r_icmp_ne (tgt := 125) dX5_readPart_83 (by decide) (fun hz => absurd (show _ from g4) hz) (fun _ => ?_)
        refine r_aload_n dX5_readPart_86 rfl ?_
        refine r_virtV (c_X5_take r s l x XL T (R) h hB0 hi) lk_X5_183 mc_X5_take dX5_readPart_87 k0 (by omega) rfl rfl (Nat.le_of_ble_eq_true rfl) ?_
        refine r_aload_n dX5_readPart_90 rfl ?_
        refine r_iload_n dX5_readPart_91 rfl ?_
        refine r_iconst (v := nI 1) dX5_readPart_92 (by decide) ?_
        refine r_iadd dX5_readPart_93 ?_
        rw [nI_add]
        refine r_virtV (hEc (rTake T R) hi.take) lk_X5_174 mc_X5_readExpression dX5_readPart_94 k0 (by omega) rfl rfl (Nat.le_of_ble_eq_true rfl) ?_
        refine r_aload_n dX5_readPart_97 rfl ?_
        refine r_getI dX5_readPart_98 fl_X5_50 rfl k0 ?_
        rw [rI_rr _ _ _ o1 o2, show hRow (rk T (E (rTake T R))) (E (rTake T R)) (I r) 11 = rf (E (rTake T R)) from rfl]
        refine r_if_ne (tgt := 118) dX5_readPart_101 (by decide) (fun hz => absurd (show _ from q1) hz) (fun _ => ?_)
        refine r_aload_n dX5_readPart_104 rfl ?_
        refine r_getI dX5_readPart_105 fl_X5_35 rfl k0 ?_
        rw [rI_rr _ _ _ o1 o2, show hRow (rk T (E (rTake T R))) (E (rTake T R)) (I r) 7 = rk T (E (rTake T R)) from rfl]
        refine r_bipush (v := nI 41) dX5_readPart_108 (by decide) ?_
        refine r_icmp_eq (tgt := 118) dX5_readPart_110 (by decide) (fun _ => ?_) (fun hz => absurd (show _ from q2) hz)
        refine r_aload_n dX5_readPart_118 rfl ?_
        refine r_virtV (c_X5_take r s l x XL T ((E (rTake T R))) h hB0 hi4) lk_X5_183 mc_X5_take dX5_readPart_119 k0 (by omega) rfl rfl (Nat.le_of_ble_eq_true rfl) ?_
        refine r_goto (tgt := 170) dX5_readPart_122 (by decide) ?_
        refine r_vret rfl dX5_readPart_170 ?_
        exact am_is.mk
      · rw [if_pos ⟨q1, q2⟩]
        refine r_aload_n dX5_readPart_0 rfl ?_
        refine r_getI dX5_readPart_1 fl_X5_50 rfl (k0) ?_
        rw [rI_rr _ _ _ o1 o2, show hRow (rk T R) R (I r) 11 = rf R from rfl]
        refine r_if_eq (tgt := 8) dX5_readPart_4 (by decide) (fun _ => ?_) (fun hz => absurd (show _ from Decidable.not_not.mp g1) hz)
        refine r_aload_n dX5_readPart_8 rfl ?_
        refine r_getI dX5_readPart_9 fl_X5_35 rfl (k0) ?_
        rw [rI_rr _ _ _ o1 o2, show hRow (rk T R) R (I r) 7 = rk T R from rfl]
        refine r_iconst (v := nI 2) dX5_readPart_12 (by decide) ?_
        refine r_icmp_ne (tgt := 38) dX5_readPart_13 (by decide) (fun _ => ?_) (fun hz => absurd hz (show ¬ _ from g2))
        refine r_aload_n dX5_readPart_38 rfl ?_
        refine r_getI dX5_readPart_39 fl_X5_35 rfl (k0) ?_
        rw [rI_rr _ _ _ o1 o2, show hRow (rk T R) R (I r) 7 = rk T R from rfl]
        refine r_sipush (v := nI 141) dX5_readPart_42 (by decide) ?_
        refine r_icmp_ne (tgt := 77) dX5_readPart_45 (by decide) (fun _ => ?_) (fun hz => absurd hz (show ¬ _ from g3))
        refine r_aload_n dX5_readPart_77 rfl ?_
        refine r_getI dX5_readPart_78 fl_X5_35 rfl (k0) ?_
        rw [rI_rr _ _ _ o1 o2, show hRow (rk T R) R (I r) 7 = rk T R from rfl]
        refine r_bipush (v := nI 40) dX5_readPart_81 (by decide) ?_
        refine r_icmp_ne (tgt := 125) dX5_readPart_83 (by decide) (fun hz => absurd (show _ from g4) hz) (fun _ => ?_)
        refine r_aload_n dX5_readPart_86 rfl ?_
        refine r_virtV (c_X5_take r s l x XL T (R) h hB0 hi) lk_X5_183 mc_X5_take dX5_readPart_87 k0 (by omega) rfl rfl (Nat.le_of_ble_eq_true rfl) ?_
        refine r_aload_n dX5_readPart_90 rfl ?_
        refine r_iload_n dX5_readPart_91 rfl ?_
        refine r_iconst (v := nI 1) dX5_readPart_92 (by decide) ?_
        refine r_iadd dX5_readPart_93 ?_
        rw [nI_add]
        refine r_virtV (hEc (rTake T R) hi.take) lk_X5_174 mc_X5_readExpression dX5_readPart_94 k0 (by omega) rfl rfl (Nat.le_of_ble_eq_true rfl) ?_
        refine r_aload_n dX5_readPart_97 rfl ?_
        refine r_getI dX5_readPart_98 fl_X5_50 rfl k0 ?_
        rw [rI_rr _ _ _ o1 o2, show hRow (rk T (E (rTake T R))) (E (rTake T R)) (I r) 11 = rf (E (rTake T R)) from rfl]
        refine r_if_ne (tgt := 118) dX5_readPart_101 (by decide) (fun hz => absurd (show _ from q1) hz) (fun _ => ?_)
        refine r_aload_n dX5_readPart_104 rfl ?_
        refine r_getI dX5_readPart_105 fl_X5_35 rfl k0 ?_
        rw [rI_rr _ _ _ o1 o2, show hRow (rk T (E (rTake T R))) (E (rTake T R)) (I r) 7 = rk T (E (rTake T R)) from rfl]
        refine r_bipush (v := nI 41) dX5_readPart_108 (by decide) ?_
        refine r_icmp_eq (tgt := 118) dX5_readPart_110 (by decide) (fun hz => absurd hz (show ¬ _ from q2)) (fun _ => ?_)
        refine r_aload_n dX5_readPart_113 rfl ?_
        refine r_iconst (v := nI 1) dX5_readPart_114 (by decide) ?_
        refine r_virtV (c_X5_fail r s l x XL T ((E (rTake T R))) (nI 1) hB0 hi4.1) lk_X5_82 mc_X5_fail dX5_readPart_115 k0 (by omega) rfl rfl (Nat.le_of_ble_eq_true rfl) ?_
        refine r_aload_n dX5_readPart_118 rfl ?_
        refine r_virtV (c_X5_take r s l x XL T (rFail T (nI 1) (E (rTake T R))) h hB0 (hi4.fail _)) lk_X5_183 mc_X5_take dX5_readPart_119 k0 (by omega) rfl rfl (Nat.le_of_ble_eq_true rfl) ?_
        refine r_goto (tgt := 170) dX5_readPart_122 (by decide) ?_
        refine r_vret rfl dX5_readPart_170 ?_
        exact am_is.mk
    · rw [if_neg (fun z => q1 z.1)]
      refine r_aload_n dX5_readPart_0 rfl ?_
      refine r_getI dX5_readPart_1 fl_X5_50 rfl (k0) ?_
      rw [rI_rr _ _ _ o1 o2, show hRow (rk T R) R (I r) 11 = rf R from rfl]
      refine r_if_eq (tgt := 8) dX5_readPart_4 (by decide) (fun _ => ?_) (fun hz => absurd (show _ from Decidable.not_not.mp g1) hz)
      refine r_aload_n dX5_readPart_8 rfl ?_
      refine r_getI dX5_readPart_9 fl_X5_35 rfl (k0) ?_
      rw [rI_rr _ _ _ o1 o2, show hRow (rk T R) R (I r) 7 = rk T R from rfl]
      refine r_iconst (v := nI 2) dX5_readPart_12 (by decide) ?_
      refine r_icmp_ne (tgt := 38) dX5_readPart_13 (by decide) (fun _ => ?_) (fun hz => absurd hz (show ¬ _ from g2))
      refine r_aload_n dX5_readPart_38 rfl ?_
      refine r_getI dX5_readPart_39 fl_X5_35 rfl (k0) ?_
      rw [rI_rr _ _ _ o1 o2, show hRow (rk T R) R (I r) 7 = rk T R from rfl]
      refine r_sipush (v := nI 141) dX5_readPart_42 (by decide) ?_
      refine r_icmp_ne (tgt := 77) dX5_readPart_45 (by decide) (fun _ => ?_) (fun hz => absurd hz (show ¬ _ from g3))
      refine r_aload_n dX5_readPart_77 rfl ?_
      refine r_getI dX5_readPart_78 fl_X5_35 rfl (k0) ?_
      rw [rI_rr _ _ _ o1 o2, show hRow (rk T R) R (I r) 7 = rk T R from rfl]
      refine r_bipush (v := nI 40) dX5_readPart_81 (by decide) ?_
      refine r_icmp_ne (tgt := 125) dX5_readPart_83 (by decide) (fun hz => absurd (show _ from g4) hz) (fun _ => ?_)
      refine r_aload_n dX5_readPart_86 rfl ?_
      refine r_virtV (c_X5_take r s l x XL T (R) h hB0 hi) lk_X5_183 mc_X5_take dX5_readPart_87 k0 (by omega) rfl rfl (Nat.le_of_ble_eq_true rfl) ?_
      refine r_aload_n dX5_readPart_90 rfl ?_
      refine r_iload_n dX5_readPart_91 rfl ?_
      refine r_iconst (v := nI 1) dX5_readPart_92 (by decide) ?_
      refine r_iadd dX5_readPart_93 ?_
      rw [nI_add]
      refine r_virtV (hEc (rTake T R) hi.take) lk_X5_174 mc_X5_readExpression dX5_readPart_94 k0 (by omega) rfl rfl (Nat.le_of_ble_eq_true rfl) ?_
      refine r_aload_n dX5_readPart_97 rfl ?_
      refine r_getI dX5_readPart_98 fl_X5_50 rfl k0 ?_
      rw [rI_rr _ _ _ o1 o2, show hRow (rk T (E (rTake T R))) (E (rTake T R)) (I r) 11 = rf (E (rTake T R)) from rfl]
      refine r_if_ne (tgt := 118) dX5_readPart_101 (by decide) (fun _ => ?_) (fun hz => absurd hz (show ¬ _ from q1))
      refine r_aload_n dX5_readPart_118 rfl ?_
      refine r_virtV (c_X5_take r s l x XL T ((E (rTake T R))) h hB0 hi4) lk_X5_183 mc_X5_take dX5_readPart_119 k0 (by omega) rfl rfl (Nat.le_of_ble_eq_true rfl) ?_
      refine r_goto (tgt := 170) dX5_readPart_122 (by decide) ?_
      refine r_vret rfl dX5_readPart_170 ?_
      exact am_is.mk
  rw [if_neg g4]
  by_cases g5 : ¬ cov (rk T R) h = -1
  · rw [if_pos g5]
    refine r_aload_n dX5_readPart_0 rfl ?_
    refine r_getI dX5_readPart_1 fl_X5_50 rfl (k0) ?_
    rw [rI_rr _ _ _ o1 o2, show hRow (rk T R) R (I r) 11 = rf R from rfl]
    refine r_if_eq (tgt := 8) dX5_readPart_4 (by decide) (fun _ => ?_) (fun hz => absurd (show _ from Decidable.not_not.mp g1) hz)
    refine r_aload_n dX5_readPart_8 rfl ?_
    refine r_getI dX5_readPart_9 fl_X5_35 rfl (k0) ?_
    rw [rI_rr _ _ _ o1 o2, show hRow (rk T R) R (I r) 7 = rk T R from rfl]
    refine r_iconst (v := nI 2) dX5_readPart_12 (by decide) ?_
    refine r_icmp_ne (tgt := 38) dX5_readPart_13 (by decide) (fun _ => ?_) (fun hz => absurd hz (show ¬ _ from g2))
    refine r_aload_n dX5_readPart_38 rfl ?_
    refine r_getI dX5_readPart_39 fl_X5_35 rfl (k0) ?_
    rw [rI_rr _ _ _ o1 o2, show hRow (rk T R) R (I r) 7 = rk T R from rfl]
    refine r_sipush (v := nI 141) dX5_readPart_42 (by decide) ?_
    refine r_icmp_ne (tgt := 77) dX5_readPart_45 (by decide) (fun _ => ?_) (fun hz => absurd hz (show ¬ _ from g3))
    refine r_aload_n dX5_readPart_77 rfl ?_
    refine r_getI dX5_readPart_78 fl_X5_35 rfl (k0) ?_
    rw [rI_rr _ _ _ o1 o2, show hRow (rk T R) R (I r) 7 = rk T R from rfl]
    refine r_bipush (v := nI 40) dX5_readPart_81 (by decide) ?_
    refine r_icmp_ne (tgt := 125) dX5_readPart_83 (by decide) (fun _ => ?_) (fun hz => absurd hz (show ¬ _ from g4))
    refine r_aload_n dX5_readPart_125 rfl ?_
    refine r_virtE (c_X5_codeOfValue r s l x XL T R h hB0 hi) lk_X5_204 mc_X5_codeOfValue dX5_readPart_126 k0 (by omega) rfl rfl (Nat.le_of_ble_eq_true rfl) ?_
    refine r_iconst (v := (-1)) dX5_readPart_129 (by decide) ?_
    refine r_icmp_eq (tgt := 151) dX5_readPart_130 (by decide) (fun hz => absurd hz (show ¬ _ from g5)) (fun _ => ?_)
    refine r_aload_n dX5_readPart_133 rfl ?_
    refine r_getR dX5_readPart_134 fl_X5_38 rfl (k0) (x8) ?_
    refine r_aload_n dX5_readPart_137 rfl ?_
    refine r_virtE (c_X5_codeOfValue r s l x XL T R h hB0 hi) lk_X5_204 mc_X5_codeOfValue dX5_readPart_138 k0 (by omega) rfl rfl (Nat.le_of_ble_eq_true rfl) ?_
    refine r_virtV (c_codeR r s l x XL T (R) h (cov (rk T R) h) hB0 hi) lk_X5_186 mc_X7_addCode dX5_readPart_141 hS.1 (by omega) rfl rfl (Nat.le_of_ble_eq_true rfl) ?_
    refine r_aload_n dX5_readPart_144 rfl ?_
    refine r_virtV (c_X5_take r s l x XL T (rCode (cov (rk T R) h) R) h hB0 (hi.code _)) lk_X5_183 mc_X5_take dX5_readPart_145 k0 (by omega) rfl rfl (Nat.le_of_ble_eq_true rfl) ?_
    refine r_goto (tgt := 170) dX5_readPart_148 (by decide) ?_
    refine r_vret rfl dX5_readPart_170 ?_
    exact am_is.mk
  rw [if_neg g5]
  by_cases g6 : rk T R < nI 128
  · rw [if_pos g6]
    refine r_aload_n dX5_readPart_0 rfl ?_
    refine r_getI dX5_readPart_1 fl_X5_50 rfl (k0) ?_
    rw [rI_rr _ _ _ o1 o2, show hRow (rk T R) R (I r) 11 = rf R from rfl]
    refine r_if_eq (tgt := 8) dX5_readPart_4 (by decide) (fun _ => ?_) (fun hz => absurd (show _ from Decidable.not_not.mp g1) hz)
    refine r_aload_n dX5_readPart_8 rfl ?_
    refine r_getI dX5_readPart_9 fl_X5_35 rfl (k0) ?_
    rw [rI_rr _ _ _ o1 o2, show hRow (rk T R) R (I r) 7 = rk T R from rfl]
    refine r_iconst (v := nI 2) dX5_readPart_12 (by decide) ?_
    refine r_icmp_ne (tgt := 38) dX5_readPart_13 (by decide) (fun _ => ?_) (fun hz => absurd hz (show ¬ _ from g2))
    refine r_aload_n dX5_readPart_38 rfl ?_
    refine r_getI dX5_readPart_39 fl_X5_35 rfl (k0) ?_
    rw [rI_rr _ _ _ o1 o2, show hRow (rk T R) R (I r) 7 = rk T R from rfl]
    refine r_sipush (v := nI 141) dX5_readPart_42 (by decide) ?_
    refine r_icmp_ne (tgt := 77) dX5_readPart_45 (by decide) (fun _ => ?_) (fun hz => absurd hz (show ¬ _ from g3))
    refine r_aload_n dX5_readPart_77 rfl ?_
    refine r_getI dX5_readPart_78 fl_X5_35 rfl (k0) ?_
    rw [rI_rr _ _ _ o1 o2, show hRow (rk T R) R (I r) 7 = rk T R from rfl]
    refine r_bipush (v := nI 40) dX5_readPart_81 (by decide) ?_
    refine r_icmp_ne (tgt := 125) dX5_readPart_83 (by decide) (fun _ => ?_) (fun hz => absurd hz (show ¬ _ from g4))
    refine r_aload_n dX5_readPart_125 rfl ?_
    refine r_virtE (c_X5_codeOfValue r s l x XL T R h hB0 hi) lk_X5_204 mc_X5_codeOfValue dX5_readPart_126 k0 (by omega) rfl rfl (Nat.le_of_ble_eq_true rfl) ?_
    refine r_iconst (v := (-1)) dX5_readPart_129 (by decide) ?_
    refine r_icmp_eq (tgt := 151) dX5_readPart_130 (by decide) (fun _ => ?_) (fun hz => absurd (show _ from Decidable.not_not.mp g5) hz)
    refine r_aload_n dX5_readPart_151 rfl ?_
    refine r_aload_n dX5_readPart_152 rfl ?_
    refine r_getI dX5_readPart_153 fl_X5_35 rfl (k0) ?_
    rw [rI_rr _ _ _ o1 o2, show hRow (rk T R) R (I r) 7 = rk T R from rfl]
    refine r_sipush (v := nI 128) dX5_readPart_156 (by decide) ?_
    refine r_icmp_lt (tgt := 166) dX5_readPart_159 (by decide) (fun _ => ?_) (fun hz => absurd (show _ from g6) hz)
    refine r_iconst (v := nI 1) dX5_readPart_166 (by decide) ?_
    refine r_virtV (c_X5_fail r s l x XL T (R) (nI 1) hB0 hi.1) lk_X5_82 mc_X5_fail dX5_readPart_167 k0 (by omega) rfl rfl (Nat.le_of_ble_eq_true rfl) ?_
    refine r_vret rfl dX5_readPart_170 ?_
    exact am_is.mk
  · rw [if_neg g6]
    refine r_aload_n dX5_readPart_0 rfl ?_
    refine r_getI dX5_readPart_1 fl_X5_50 rfl (k0) ?_
    rw [rI_rr _ _ _ o1 o2, show hRow (rk T R) R (I r) 11 = rf R from rfl]
    refine r_if_eq (tgt := 8) dX5_readPart_4 (by decide) (fun _ => ?_) (fun hz => absurd (show _ from Decidable.not_not.mp g1) hz)
    refine r_aload_n dX5_readPart_8 rfl ?_
    refine r_getI dX5_readPart_9 fl_X5_35 rfl (k0) ?_
    rw [rI_rr _ _ _ o1 o2, show hRow (rk T R) R (I r) 7 = rk T R from rfl]
    refine r_iconst (v := nI 2) dX5_readPart_12 (by decide) ?_
    refine r_icmp_ne (tgt := 38) dX5_readPart_13 (by decide) (fun _ => ?_) (fun hz => absurd hz (show ¬ _ from g2))
    refine r_aload_n dX5_readPart_38 rfl ?_
    refine r_getI dX5_readPart_39 fl_X5_35 rfl (k0) ?_
    rw [rI_rr _ _ _ o1 o2, show hRow (rk T R) R (I r) 7 = rk T R from rfl]
    refine r_sipush (v := nI 141) dX5_readPart_42 (by decide) ?_
    refine r_icmp_ne (tgt := 77) dX5_readPart_45 (by decide) (fun _ => ?_) (fun hz => absurd hz (show ¬ _ from g3))
    refine r_aload_n dX5_readPart_77 rfl ?_
    refine r_getI dX5_readPart_78 fl_X5_35 rfl (k0) ?_
    rw [rI_rr _ _ _ o1 o2, show hRow (rk T R) R (I r) 7 = rk T R from rfl]
    refine r_bipush (v := nI 40) dX5_readPart_81 (by decide) ?_
    refine r_icmp_ne (tgt := 125) dX5_readPart_83 (by decide) (fun _ => ?_) (fun hz => absurd hz (show ¬ _ from g4))
    refine r_aload_n dX5_readPart_125 rfl ?_
    refine r_virtE (c_X5_codeOfValue r s l x XL T R h hB0 hi) lk_X5_204 mc_X5_codeOfValue dX5_readPart_126 k0 (by omega) rfl rfl (Nat.le_of_ble_eq_true rfl) ?_
    refine r_iconst (v := (-1)) dX5_readPart_129 (by decide) ?_
    refine r_icmp_eq (tgt := 151) dX5_readPart_130 (by decide) (fun _ => ?_) (fun hz => absurd (show _ from Decidable.not_not.mp g5) hz)
    refine r_aload_n dX5_readPart_151 rfl ?_
    refine r_aload_n dX5_readPart_152 rfl ?_
    refine r_getI dX5_readPart_153 fl_X5_35 rfl (k0) ?_
    rw [rI_rr _ _ _ o1 o2, show hRow (rk T R) R (I r) 7 = rk T R from rfl]
    refine r_sipush (v := nI 128) dX5_readPart_156 (by decide) ?_
    refine r_icmp_lt (tgt := 166) dX5_readPart_159 (by decide) (fun hz => absurd hz (show ¬ _ from g6)) (fun _ => ?_)
    refine r_iconst (v := nI 3) dX5_readPart_162 (by decide) ?_
    refine r_goto (tgt := 167) dX5_readPart_163 (by decide) ?_
    refine r_virtV (c_X5_fail r s l x XL T (R) (nI 3) hB0 hi.1) lk_X5_82 mc_X5_fail dX5_readPart_167 k0 (by omega) rfl rfl (Nat.le_of_ble_eq_true rfl) ?_
    refine r_vret rfl dX5_readPart_170 ?_
    exact am_is.mk

theorem dX5_readProduct_0 : decode cX5_readProduct 0 = .ok (.aload_n 0, 1) := by decide +kernel
theorem dX5_readProduct_1 : decode cX5_readProduct 1 = .ok (.iload_n 1, 1) := by decide +kernel
theorem dX5_readProduct_2 : decode cX5_readProduct 2 = .ok (.invokevirtual 201, 3) := by decide +kernel
theorem dX5_readProduct_5 : decode cX5_readProduct 5 = .ok (.iconst 0, 1) := by decide +kernel
theorem dX5_readProduct_6 : decode cX5_readProduct 6 = .ok (.istore_n 2, 1) := by decide +kernel
theorem dX5_readProduct_7 : decode cX5_readProduct 7 = .ok (.iload_n 2, 1) := by decide +kernel
theorem dX5_readProduct_8 : decode cX5_readProduct 8 = .ok (.sipush 500, 3) := by decide +kernel
theorem dX5_readProduct_11 : decode cX5_readProduct 11 = .ok (.if_icmp .ge 70, 3) := by decide +kernel
theorem dX5_readProduct_14 : decode cX5_readProduct 14 = .ok (.aload_n 0, 1) := by decide +kernel
theorem dX5_readProduct_15 : decode cX5_readProduct 15 = .ok (.getfield 35, 3) := by decide +kernel
theorem dX5_readProduct_18 : decode cX5_readProduct 18 = .ok (.bipush 42, 2) := by decide +kernel
theorem dX5_readProduct_20 : decode cX5_readProduct 20 = .ok (.if_icmp .eq 12, 3) := by decide +kernel
theorem dX5_readProduct_23 : decode cX5_readProduct 23 = .ok (.aload_n 0, 1) := by decide +kernel
theorem dX5_readProduct_24 : decode cX5_readProduct 24 = .ok (.getfield 35, 3) := by decide +kernel
theorem dX5_readProduct_27 : decode cX5_readProduct 27 = .ok (.bipush 47, 2) := by decide +kernel
theorem dX5_readProduct_29 : decode cX5_readProduct 29 = .ok (.if_icmp .ne 52, 3) := by decide +kernel
theorem dX5_readProduct_32 : decode cX5_readProduct 32 = .ok (.aload_n 0, 1) := by decide +kernel
theorem dX5_readProduct_33 : decode cX5_readProduct 33 = .ok (.getfield 50, 3) := by decide +kernel
theorem dX5_readProduct_36 : decode cX5_readProduct 36 = .ok (.ifCond .ne 45, 3) := by decide +kernel
theorem dX5_readProduct_39 : decode cX5_readProduct 39 = .ok (.aload_n 0, 1) := by decide +kernel
theorem dX5_readProduct_40 : decode cX5_readProduct 40 = .ok (.getfield 35, 3) := by decide +kernel
theorem dX5_readProduct_43 : decode cX5_readProduct 43 = .ok (.bipush 42, 2) := by decide +kernel
theorem dX5_readProduct_45 : decode cX5_readProduct 45 = .ok (.if_icmp .ne 9, 3) := by decide +kernel
theorem dX5_readProduct_48 : decode cX5_readProduct 48 = .ok (.sipush 20006, 3) := by decide +kernel
theorem dX5_readProduct_51 : decode cX5_readProduct 51 = .ok (.goto 6, 3) := by decide +kernel
theorem dX5_readProduct_54 : decode cX5_readProduct 54 = .ok (.sipush 20007, 3) := by decide +kernel
theorem dX5_readProduct_57 : decode cX5_readProduct 57 = .ok (.istore_n 3, 1) := by decide +kernel
theorem dX5_readProduct_58 : decode cX5_readProduct 58 = .ok (.aload_n 0, 1) := by decide +kernel
theorem dX5_readProduct_59 : decode cX5_readProduct 59 = .ok (.invokevirtual 183, 3) := by decide +kernel
theorem dX5_readProduct_62 : decode cX5_readProduct 62 = .ok (.aload_n 0, 1) := by decide +kernel
theorem dX5_readProduct_63 : decode cX5_readProduct 63 = .ok (.iload_n 1, 1) := by decide +kernel
theorem dX5_readProduct_64 : decode cX5_readProduct 64 = .ok (.invokevirtual 201, 3) := by decide +kernel
theorem dX5_readProduct_67 : decode cX5_readProduct 67 = .ok (.aload_n 0, 1) := by decide +kernel
theorem dX5_readProduct_68 : decode cX5_readProduct 68 = .ok (.getfield 38, 3) := by decide +kernel
theorem dX5_readProduct_71 : decode cX5_readProduct 71 = .ok (.iload_n 3, 1) := by decide +kernel
theorem dX5_readProduct_72 : decode cX5_readProduct 72 = .ok (.invokevirtual 186, 3) := by decide +kernel
theorem dX5_readProduct_75 : decode cX5_readProduct 75 = .ok (.iinc 2 1, 3) := by decide +kernel
theorem dX5_readProduct_78 : decode cX5_readProduct 78 = .ok (.goto (-71), 3) := by decide +kernel
theorem dX5_readProduct_81 : decode cX5_readProduct 81 = .ok (.return_, 1) := by decide +kernel

set_option maxHeartbeats 4000000 in
set_option maxRecDepth 100000 in
theorem w_X5_readProduct (r s l x XL : Nat) (T : RT) (h : Nat) {n : Nat} {kd : mK} {I : mI} {J : mJ} {P : mP} (D w : Nat) (E : RS → RS) (hD : 3 < D) (hw : w < 6) (hE : ∀ R, rInv T h R → rInv T h (E R)) (hEc : ∀ R, rInv T h R → Ct yX5_readExpression cX5_readExpression 3 none D 0 0 [.ref r, .int (nI (w + 1))] n kd (rI r s l T (R) I) J P (am_is none n kd (rI r s l T (E R) I) J P)) (hB : rOK kd P I r s l x XL T) : ∀ (k i : Nat) (z : Option Value), i + k = 500 → ∀ R, rInv T h R → Ru yX5_readProduct.cls cX5_readProduct 4 none yX5_readProduct.name (D + 2) (am_is none n kd (rI r s l T (rLoop T (is2 42 47) (cd2 42 20006 20007) (rPart T h E) k R) I) J P) 0 0 7 [some (.ref r), some (.int (nI w)), some (.int (nI i)), z] [] n kd (rI r s l T (R) I) J P := by
  have hB0 := hB
  obtain ⟨⟨k0, k2, k3, k4⟩, ⟨x0, x2, x3, x4, x8, x9⟩, hS, hL, ⟨o1, o2⟩, ⟨kx, ox, xl⟩, ⟨i1, i5⟩, hT, ⟨t1, t2, t3, t4⟩, hBE, hX, hF⟩ := hB
  intro k
  induction k with
  | zero =>
    intro i z hi0 R hi
    have hi1 : i = 500 := by omega
    subst hi1
    refine r_iload_n dX5_readProduct_7 rfl ?_
    refine r_sipush (v := nI 500) dX5_readProduct_8 (by decide) ?_
    refine r_icmp_ge (tgt := 81) dX5_readProduct_11 (by decide) (fun _ => ?_) (fun hz => absurd (show _ from (by rw [nI_leI (by omega) (by omega)]; omega)) hz)
    refine r_vret rfl dX5_readProduct_81 ?_
    exact am_is.mk
  | succ k ih =>
    intro i z hi0 R hi
    by_cases c1 : rk T R = nI 42
    · by_cases c0 : rf R = 0
      · skip
        refine r_iload_n dX5_readProduct_7 rfl ?_
        refine r_sipush (v := nI 500) dX5_readProduct_8 (by decide) ?_
        refine r_icmp_ge (tgt := 81) dX5_readProduct_11 (by decide) (fun hz => absurd hz (show ¬ _ from (by rw [nI_leI (by omega) (by omega)]; omega))) (fun _ => ?_)
        refine r_aload_n dX5_readProduct_14 rfl ?_
        refine r_getI dX5_readProduct_15 fl_X5_35 rfl (k0) ?_
        rw [rI_rr _ _ _ o1 o2, show hRow (rk T R) R (I r) 7 = rk T R from rfl]
        refine r_bipush (v := nI 42) dX5_readProduct_18 (by decide) ?_
        refine r_icmp_eq (tgt := 32) dX5_readProduct_20 (by decide) (fun _ => ?_) (fun hz => absurd (show _ from c1) hz)
        refine r_aload_n dX5_readProduct_32 rfl ?_
        refine r_getI dX5_readProduct_33 fl_X5_50 rfl (k0) ?_
        rw [rI_rr _ _ _ o1 o2, show hRow (rk T R) R (I r) 11 = rf R from rfl]
        refine r_if_ne (tgt := 81) dX5_readProduct_36 (by decide) (fun hz => absurd (show _ from c0) hz) (fun _ => ?_)
        refine r_aload_n dX5_readProduct_39 rfl ?_
        refine r_getI dX5_readProduct_40 fl_X5_35 rfl (k0) ?_
        rw [rI_rr _ _ _ o1 o2, show hRow (rk T R) R (I r) 7 = rk T R from rfl]
        refine r_bipush (v := nI 42) dX5_readProduct_43 (by decide) ?_
        refine r_icmp_ne (tgt := 54) dX5_readProduct_45 (by decide) (fun hz => absurd (show _ from c1) hz) (fun _ => ?_)
        refine r_sipush (v := nI 20006) dX5_readProduct_48 (by decide) ?_
        refine r_goto (tgt := 57) dX5_readProduct_51 (by decide) ?_
        refine r_istore_n dX5_readProduct_57 (by decide) ?_
        refine r_aload_n dX5_readProduct_58 rfl ?_
        refine r_virtV (c_X5_take r s l x XL T (R) h hB0 hi) lk_X5_183 mc_X5_take dX5_readProduct_59 k0 (by omega) rfl rfl (Nat.le_of_ble_eq_true rfl) ?_
        refine r_aload_n dX5_readProduct_62 rfl ?_
        refine r_iload_n dX5_readProduct_63 rfl ?_
        refine r_virtV (c_X5_readPart r s l x XL T h D w E hD hw hE hEc (rTake T R) hB0 hi.take) lk_X5_201 mc_X5_readPart dX5_readProduct_64 k0 (by omega) rfl rfl (Nat.le_of_ble_eq_true rfl) ?_
        refine r_aload_n dX5_readProduct_67 rfl ?_
        refine r_getR dX5_readProduct_68 fl_X5_38 rfl (k0) (x8) ?_
        refine r_iload_n dX5_readProduct_71 rfl ?_
        refine r_virtV (c_codeR r s l x XL T (rPart T h E (rTake T R)) h (nI 20006) hB0 (rPart_inv hE _ hi.take)) lk_X5_186 mc_X7_addCode dX5_readProduct_72 hS.1 (by omega) rfl rfl (Nat.le_of_ble_eq_true rfl) ?_
        refine r_iinc (v := nI (i + 1)) dX5_readProduct_75 rfl (nI_inc i) ?_
        refine r_goto (tgt := 7) dX5_readProduct_78 (by decide) ?_
        have hn := ih (i + 1) (some (.int (nI 20006))) (by omega) (rCode (nI 20006) (rPart T h E (rTake T R))) ((rPart_inv hE _ hi.take).code _)
        unfold rLoop
        rw [if_pos ⟨by simp [is2, c1], c0⟩, show cd2 42 20006 20007 (rk T R) = nI 20006 from if_pos c1]
        exact hn
      · skip
        unfold rLoop
        rw [if_neg (fun z => c0 z.2)]
        refine r_iload_n dX5_readProduct_7 rfl ?_
        refine r_sipush (v := nI 500) dX5_readProduct_8 (by decide) ?_
        refine r_icmp_ge (tgt := 81) dX5_readProduct_11 (by decide) (fun hz => absurd hz (show ¬ _ from (by rw [nI_leI (by omega) (by omega)]; omega))) (fun _ => ?_)
        refine r_aload_n dX5_readProduct_14 rfl ?_
        refine r_getI dX5_readProduct_15 fl_X5_35 rfl (k0) ?_
        rw [rI_rr _ _ _ o1 o2, show hRow (rk T R) R (I r) 7 = rk T R from rfl]
        refine r_bipush (v := nI 42) dX5_readProduct_18 (by decide) ?_
        refine r_icmp_eq (tgt := 32) dX5_readProduct_20 (by decide) (fun _ => ?_) (fun hz => absurd (show _ from c1) hz)
        refine r_aload_n dX5_readProduct_32 rfl ?_
        refine r_getI dX5_readProduct_33 fl_X5_50 rfl (k0) ?_
        rw [rI_rr _ _ _ o1 o2, show hRow (rk T R) R (I r) 11 = rf R from rfl]
        refine r_if_ne (tgt := 81) dX5_readProduct_36 (by decide) (fun _ => ?_) (fun hz => absurd hz (show ¬ _ from c0))
        refine r_vret rfl dX5_readProduct_81 ?_
        exact am_is.mk
    · by_cases c2 : rk T R = nI 47
      · by_cases c0 : rf R = 0
        · skip
          refine r_iload_n dX5_readProduct_7 rfl ?_
          refine r_sipush (v := nI 500) dX5_readProduct_8 (by decide) ?_
          refine r_icmp_ge (tgt := 81) dX5_readProduct_11 (by decide) (fun hz => absurd hz (show ¬ _ from (by rw [nI_leI (by omega) (by omega)]; omega))) (fun _ => ?_)
          refine r_aload_n dX5_readProduct_14 rfl ?_
          refine r_getI dX5_readProduct_15 fl_X5_35 rfl (k0) ?_
          rw [rI_rr _ _ _ o1 o2, show hRow (rk T R) R (I r) 7 = rk T R from rfl]
          refine r_bipush (v := nI 42) dX5_readProduct_18 (by decide) ?_
          refine r_icmp_eq (tgt := 32) dX5_readProduct_20 (by decide) (fun hz => absurd hz (show ¬ _ from c1)) (fun _ => ?_)
          refine r_aload_n dX5_readProduct_23 rfl ?_
          refine r_getI dX5_readProduct_24 fl_X5_35 rfl (k0) ?_
          rw [rI_rr _ _ _ o1 o2, show hRow (rk T R) R (I r) 7 = rk T R from rfl]
          refine r_bipush (v := nI 47) dX5_readProduct_27 (by decide) ?_
          refine r_icmp_ne (tgt := 81) dX5_readProduct_29 (by decide) (fun hz => absurd (show _ from c2) hz) (fun _ => ?_)
          refine r_aload_n dX5_readProduct_32 rfl ?_
          refine r_getI dX5_readProduct_33 fl_X5_50 rfl (k0) ?_
          rw [rI_rr _ _ _ o1 o2, show hRow (rk T R) R (I r) 11 = rf R from rfl]
          refine r_if_ne (tgt := 81) dX5_readProduct_36 (by decide) (fun hz => absurd (show _ from c0) hz) (fun _ => ?_)
          refine r_aload_n dX5_readProduct_39 rfl ?_
          refine r_getI dX5_readProduct_40 fl_X5_35 rfl (k0) ?_
          rw [rI_rr _ _ _ o1 o2, show hRow (rk T R) R (I r) 7 = rk T R from rfl]
          refine r_bipush (v := nI 42) dX5_readProduct_43 (by decide) ?_
          refine r_icmp_ne (tgt := 54) dX5_readProduct_45 (by decide) (fun _ => ?_) (fun hz => absurd hz (show ¬ _ from c1))
          refine r_sipush (v := nI 20007) dX5_readProduct_54 (by decide) ?_
          refine r_istore_n dX5_readProduct_57 (by decide) ?_
          refine r_aload_n dX5_readProduct_58 rfl ?_
          refine r_virtV (c_X5_take r s l x XL T (R) h hB0 hi) lk_X5_183 mc_X5_take dX5_readProduct_59 k0 (by omega) rfl rfl (Nat.le_of_ble_eq_true rfl) ?_
          refine r_aload_n dX5_readProduct_62 rfl ?_
          refine r_iload_n dX5_readProduct_63 rfl ?_
          refine r_virtV (c_X5_readPart r s l x XL T h D w E hD hw hE hEc (rTake T R) hB0 hi.take) lk_X5_201 mc_X5_readPart dX5_readProduct_64 k0 (by omega) rfl rfl (Nat.le_of_ble_eq_true rfl) ?_
          refine r_aload_n dX5_readProduct_67 rfl ?_
          refine r_getR dX5_readProduct_68 fl_X5_38 rfl (k0) (x8) ?_
          refine r_iload_n dX5_readProduct_71 rfl ?_
          refine r_virtV (c_codeR r s l x XL T (rPart T h E (rTake T R)) h (nI 20007) hB0 (rPart_inv hE _ hi.take)) lk_X5_186 mc_X7_addCode dX5_readProduct_72 hS.1 (by omega) rfl rfl (Nat.le_of_ble_eq_true rfl) ?_
          refine r_iinc (v := nI (i + 1)) dX5_readProduct_75 rfl (nI_inc i) ?_
          refine r_goto (tgt := 7) dX5_readProduct_78 (by decide) ?_
          have hn := ih (i + 1) (some (.int (nI 20007))) (by omega) (rCode (nI 20007) (rPart T h E (rTake T R))) ((rPart_inv hE _ hi.take).code _)
          unfold rLoop
          rw [if_pos ⟨by simp [is2, c2], c0⟩, show cd2 42 20006 20007 (rk T R) = nI 20007 from if_neg c1]
          exact hn
        · skip
          unfold rLoop
          rw [if_neg (fun z => c0 z.2)]
          refine r_iload_n dX5_readProduct_7 rfl ?_
          refine r_sipush (v := nI 500) dX5_readProduct_8 (by decide) ?_
          refine r_icmp_ge (tgt := 81) dX5_readProduct_11 (by decide) (fun hz => absurd hz (show ¬ _ from (by rw [nI_leI (by omega) (by omega)]; omega))) (fun _ => ?_)
          refine r_aload_n dX5_readProduct_14 rfl ?_
          refine r_getI dX5_readProduct_15 fl_X5_35 rfl (k0) ?_
          rw [rI_rr _ _ _ o1 o2, show hRow (rk T R) R (I r) 7 = rk T R from rfl]
          refine r_bipush (v := nI 42) dX5_readProduct_18 (by decide) ?_
          refine r_icmp_eq (tgt := 32) dX5_readProduct_20 (by decide) (fun hz => absurd hz (show ¬ _ from c1)) (fun _ => ?_)
          refine r_aload_n dX5_readProduct_23 rfl ?_
          refine r_getI dX5_readProduct_24 fl_X5_35 rfl (k0) ?_
          rw [rI_rr _ _ _ o1 o2, show hRow (rk T R) R (I r) 7 = rk T R from rfl]
          refine r_bipush (v := nI 47) dX5_readProduct_27 (by decide) ?_
          refine r_icmp_ne (tgt := 81) dX5_readProduct_29 (by decide) (fun hz => absurd (show _ from c2) hz) (fun _ => ?_)
          refine r_aload_n dX5_readProduct_32 rfl ?_
          refine r_getI dX5_readProduct_33 fl_X5_50 rfl (k0) ?_
          rw [rI_rr _ _ _ o1 o2, show hRow (rk T R) R (I r) 11 = rf R from rfl]
          refine r_if_ne (tgt := 81) dX5_readProduct_36 (by decide) (fun _ => ?_) (fun hz => absurd hz (show ¬ _ from c0))
          refine r_vret rfl dX5_readProduct_81 ?_
          exact am_is.mk
      · skip
        unfold rLoop
        rw [if_neg (fun z => by simp [is2, c1, c2] at z)]
        refine r_iload_n dX5_readProduct_7 rfl ?_
        refine r_sipush (v := nI 500) dX5_readProduct_8 (by decide) ?_
        refine r_icmp_ge (tgt := 81) dX5_readProduct_11 (by decide) (fun hz => absurd hz (show ¬ _ from (by rw [nI_leI (by omega) (by omega)]; omega))) (fun _ => ?_)
        refine r_aload_n dX5_readProduct_14 rfl ?_
        refine r_getI dX5_readProduct_15 fl_X5_35 rfl (k0) ?_
        rw [rI_rr _ _ _ o1 o2, show hRow (rk T R) R (I r) 7 = rk T R from rfl]
        refine r_bipush (v := nI 42) dX5_readProduct_18 (by decide) ?_
        refine r_icmp_eq (tgt := 32) dX5_readProduct_20 (by decide) (fun hz => absurd hz (show ¬ _ from c1)) (fun _ => ?_)
        refine r_aload_n dX5_readProduct_23 rfl ?_
        refine r_getI dX5_readProduct_24 fl_X5_35 rfl (k0) ?_
        rw [rI_rr _ _ _ o1 o2, show hRow (rk T R) R (I r) 7 = rk T R from rfl]
        refine r_bipush (v := nI 47) dX5_readProduct_27 (by decide) ?_
        refine r_icmp_ne (tgt := 81) dX5_readProduct_29 (by decide) (fun _ => ?_) (fun hz => absurd hz (show ¬ _ from c2))
        refine r_vret rfl dX5_readProduct_81 ?_
        exact am_is.mk

set_option maxHeartbeats 4000000 in
set_option maxRecDepth 100000 in
theorem c_X5_readProduct (r s l x XL : Nat) (T : RT) (h : Nat) {n : Nat} {kd : mK} {I : mI} {J : mJ} {P : mP} (D w : Nat) (E : RS → RS) (hD : 3 < D) (hw : w < 6) (hE : ∀ R, rInv T h R → rInv T h (E R)) (hEc : ∀ R, rInv T h R → Ct yX5_readExpression cX5_readExpression 3 none D 0 0 [.ref r, .int (nI (w + 1))] n kd (rI r s l T (R) I) J P (am_is none n kd (rI r s l T (E R) I) J P)) (R : RS) (hB : rOK kd P I r s l x XL T) (hi : rInv T h R) : Ct yX5_readProduct cX5_readProduct 4 none (D + 2) 0 0 [.ref r, .int (nI w)] n kd (rI r s l T (R) I) J P (am_is none n kd (rI r s l T (rProd T h E R) I) J P) := by
  have hB0 := hB
  obtain ⟨⟨k0, k2, k3, k4⟩, ⟨x0, x2, x3, x4, x8, x9⟩, hS, hL, ⟨o1, o2⟩, ⟨kx, ox, xl⟩, ⟨i1, i5⟩, hT, ⟨t1, t2, t3, t4⟩, hBE, hX, hF⟩ := hB
  refine ct_of 2 (by decide +kernel) (Nat.le_of_ble_eq_true rfl) rfl ?_
  refine r_aload_n dX5_readProduct_0 rfl ?_
  refine r_iload_n dX5_readProduct_1 rfl ?_
  refine r_virtV (c_X5_readPart r s l x XL T h D w E hD hw hE hEc (R) hB0 hi) lk_X5_201 mc_X5_readPart dX5_readProduct_2 k0 (by omega) rfl rfl (Nat.le_of_ble_eq_true rfl) ?_
  refine r_iconst (v := nI 0) dX5_readProduct_5 (by decide) ?_
  refine r_istore_n dX5_readProduct_6 (by decide) ?_
  exact w_X5_readProduct r s l x XL T h D w E hD hw hE hEc hB0 500 0 _ (by omega) _ (rPart_inv hE R hi)

theorem dX5_readSum_0 : decode cX5_readSum 0 = .ok (.aload_n 0, 1) := by decide +kernel
theorem dX5_readSum_1 : decode cX5_readSum 1 = .ok (.iload_n 1, 1) := by decide +kernel
theorem dX5_readSum_2 : decode cX5_readSum 2 = .ok (.invokevirtual 198, 3) := by decide +kernel
theorem dX5_readSum_5 : decode cX5_readSum 5 = .ok (.iconst 0, 1) := by decide +kernel
theorem dX5_readSum_6 : decode cX5_readSum 6 = .ok (.istore_n 2, 1) := by decide +kernel
theorem dX5_readSum_7 : decode cX5_readSum 7 = .ok (.iload_n 2, 1) := by decide +kernel
theorem dX5_readSum_8 : decode cX5_readSum 8 = .ok (.sipush 500, 3) := by decide +kernel
theorem dX5_readSum_11 : decode cX5_readSum 11 = .ok (.if_icmp .ge 70, 3) := by decide +kernel
theorem dX5_readSum_14 : decode cX5_readSum 14 = .ok (.aload_n 0, 1) := by decide +kernel
theorem dX5_readSum_15 : decode cX5_readSum 15 = .ok (.getfield 35, 3) := by decide +kernel
theorem dX5_readSum_18 : decode cX5_readSum 18 = .ok (.bipush 43, 2) := by decide +kernel
theorem dX5_readSum_20 : decode cX5_readSum 20 = .ok (.if_icmp .eq 12, 3) := by decide +kernel
theorem dX5_readSum_23 : decode cX5_readSum 23 = .ok (.aload_n 0, 1) := by decide +kernel
theorem dX5_readSum_24 : decode cX5_readSum 24 = .ok (.getfield 35, 3) := by decide +kernel
theorem dX5_readSum_27 : decode cX5_readSum 27 = .ok (.bipush 45, 2) := by decide +kernel
theorem dX5_readSum_29 : decode cX5_readSum 29 = .ok (.if_icmp .ne 52, 3) := by decide +kernel
theorem dX5_readSum_32 : decode cX5_readSum 32 = .ok (.aload_n 0, 1) := by decide +kernel
theorem dX5_readSum_33 : decode cX5_readSum 33 = .ok (.getfield 50, 3) := by decide +kernel
theorem dX5_readSum_36 : decode cX5_readSum 36 = .ok (.ifCond .ne 45, 3) := by decide +kernel
theorem dX5_readSum_39 : decode cX5_readSum 39 = .ok (.aload_n 0, 1) := by decide +kernel
theorem dX5_readSum_40 : decode cX5_readSum 40 = .ok (.getfield 35, 3) := by decide +kernel
theorem dX5_readSum_43 : decode cX5_readSum 43 = .ok (.bipush 43, 2) := by decide +kernel
theorem dX5_readSum_45 : decode cX5_readSum 45 = .ok (.if_icmp .ne 9, 3) := by decide +kernel
theorem dX5_readSum_48 : decode cX5_readSum 48 = .ok (.sipush 20004, 3) := by decide +kernel
theorem dX5_readSum_51 : decode cX5_readSum 51 = .ok (.goto 6, 3) := by decide +kernel
theorem dX5_readSum_54 : decode cX5_readSum 54 = .ok (.sipush 20005, 3) := by decide +kernel
theorem dX5_readSum_57 : decode cX5_readSum 57 = .ok (.istore_n 3, 1) := by decide +kernel
theorem dX5_readSum_58 : decode cX5_readSum 58 = .ok (.aload_n 0, 1) := by decide +kernel
theorem dX5_readSum_59 : decode cX5_readSum 59 = .ok (.invokevirtual 183, 3) := by decide +kernel
theorem dX5_readSum_62 : decode cX5_readSum 62 = .ok (.aload_n 0, 1) := by decide +kernel
theorem dX5_readSum_63 : decode cX5_readSum 63 = .ok (.iload_n 1, 1) := by decide +kernel
theorem dX5_readSum_64 : decode cX5_readSum 64 = .ok (.invokevirtual 198, 3) := by decide +kernel
theorem dX5_readSum_67 : decode cX5_readSum 67 = .ok (.aload_n 0, 1) := by decide +kernel
theorem dX5_readSum_68 : decode cX5_readSum 68 = .ok (.getfield 38, 3) := by decide +kernel
theorem dX5_readSum_71 : decode cX5_readSum 71 = .ok (.iload_n 3, 1) := by decide +kernel
theorem dX5_readSum_72 : decode cX5_readSum 72 = .ok (.invokevirtual 186, 3) := by decide +kernel
theorem dX5_readSum_75 : decode cX5_readSum 75 = .ok (.iinc 2 1, 3) := by decide +kernel
theorem dX5_readSum_78 : decode cX5_readSum 78 = .ok (.goto (-71), 3) := by decide +kernel
theorem dX5_readSum_81 : decode cX5_readSum 81 = .ok (.return_, 1) := by decide +kernel

set_option maxHeartbeats 4000000 in
set_option maxRecDepth 100000 in
theorem w_X5_readSum (r s l x XL : Nat) (T : RT) (h : Nat) {n : Nat} {kd : mK} {I : mI} {J : mJ} {P : mP} (D w : Nat) (E : RS → RS) (hD : 3 < D) (hw : w < 6) (hE : ∀ R, rInv T h R → rInv T h (E R)) (hEc : ∀ R, rInv T h R → Ct yX5_readExpression cX5_readExpression 3 none D 0 0 [.ref r, .int (nI (w + 1))] n kd (rI r s l T (R) I) J P (am_is none n kd (rI r s l T (E R) I) J P)) (hB : rOK kd P I r s l x XL T) : ∀ (k i : Nat) (z : Option Value), i + k = 500 → ∀ R, rInv T h R → Ru yX5_readSum.cls cX5_readSum 4 none yX5_readSum.name (D + 3) (am_is none n kd (rI r s l T (rLoop T (is2 43 45) (cd2 43 20004 20005) (rProd T h E) k R) I) J P) 0 0 7 [some (.ref r), some (.int (nI w)), some (.int (nI i)), z] [] n kd (rI r s l T (R) I) J P := by
  have hB0 := hB
  obtain ⟨⟨k0, k2, k3, k4⟩, ⟨x0, x2, x3, x4, x8, x9⟩, hS, hL, ⟨o1, o2⟩, ⟨kx, ox, xl⟩, ⟨i1, i5⟩, hT, ⟨t1, t2, t3, t4⟩, hBE, hX, hF⟩ := hB
  intro k
  induction k with
  | zero =>
    intro i z hi0 R hi
    have hi1 : i = 500 := by omega
    subst hi1
    refine r_iload_n dX5_readSum_7 rfl ?_
    refine r_sipush (v := nI 500) dX5_readSum_8 (by decide) ?_
    refine r_icmp_ge (tgt := 81) dX5_readSum_11 (by decide) (fun _ => ?_) (fun hz => absurd (show _ from (by rw [nI_leI (by omega) (by omega)]; omega)) hz)
    refine r_vret rfl dX5_readSum_81 ?_
    exact am_is.mk
  | succ k ih =>
    intro i z hi0 R hi
    by_cases c1 : rk T R = nI 43
    · by_cases c0 : rf R = 0
      · skip
        refine r_iload_n dX5_readSum_7 rfl ?_
        refine r_sipush (v := nI 500) dX5_readSum_8 (by decide) ?_
        refine r_icmp_ge (tgt := 81) dX5_readSum_11 (by decide) (fun hz => absurd hz (show ¬ _ from (by rw [nI_leI (by omega) (by omega)]; omega))) (fun _ => ?_)
        refine r_aload_n dX5_readSum_14 rfl ?_
        refine r_getI dX5_readSum_15 fl_X5_35 rfl (k0) ?_
        rw [rI_rr _ _ _ o1 o2, show hRow (rk T R) R (I r) 7 = rk T R from rfl]
        refine r_bipush (v := nI 43) dX5_readSum_18 (by decide) ?_
        refine r_icmp_eq (tgt := 32) dX5_readSum_20 (by decide) (fun _ => ?_) (fun hz => absurd (show _ from c1) hz)
        refine r_aload_n dX5_readSum_32 rfl ?_
        refine r_getI dX5_readSum_33 fl_X5_50 rfl (k0) ?_
        rw [rI_rr _ _ _ o1 o2, show hRow (rk T R) R (I r) 11 = rf R from rfl]
        refine r_if_ne (tgt := 81) dX5_readSum_36 (by decide) (fun hz => absurd (show _ from c0) hz) (fun _ => ?_)
        refine r_aload_n dX5_readSum_39 rfl ?_
        refine r_getI dX5_readSum_40 fl_X5_35 rfl (k0) ?_
        rw [rI_rr _ _ _ o1 o2, show hRow (rk T R) R (I r) 7 = rk T R from rfl]
        refine r_bipush (v := nI 43) dX5_readSum_43 (by decide) ?_
        refine r_icmp_ne (tgt := 54) dX5_readSum_45 (by decide) (fun hz => absurd (show _ from c1) hz) (fun _ => ?_)
        refine r_sipush (v := nI 20004) dX5_readSum_48 (by decide) ?_
        refine r_goto (tgt := 57) dX5_readSum_51 (by decide) ?_
        refine r_istore_n dX5_readSum_57 (by decide) ?_
        refine r_aload_n dX5_readSum_58 rfl ?_
        refine r_virtV (c_X5_take r s l x XL T (R) h hB0 hi) lk_X5_183 mc_X5_take dX5_readSum_59 k0 (by omega) rfl rfl (Nat.le_of_ble_eq_true rfl) ?_
        refine r_aload_n dX5_readSum_62 rfl ?_
        refine r_iload_n dX5_readSum_63 rfl ?_
        refine r_virtV (c_X5_readProduct r s l x XL T h D w E hD hw hE hEc (rTake T R) hB0 hi.take) lk_X5_198 mc_X5_readProduct dX5_readSum_64 k0 (by omega) rfl rfl (Nat.le_of_ble_eq_true rfl) ?_
        refine r_aload_n dX5_readSum_67 rfl ?_
        refine r_getR dX5_readSum_68 fl_X5_38 rfl (k0) (x8) ?_
        refine r_iload_n dX5_readSum_71 rfl ?_
        refine r_virtV (c_codeR r s l x XL T (rProd T h E (rTake T R)) h (nI 20004) hB0 (rProd_inv hE _ hi.take)) lk_X5_186 mc_X7_addCode dX5_readSum_72 hS.1 (by omega) rfl rfl (Nat.le_of_ble_eq_true rfl) ?_
        refine r_iinc (v := nI (i + 1)) dX5_readSum_75 rfl (nI_inc i) ?_
        refine r_goto (tgt := 7) dX5_readSum_78 (by decide) ?_
        have hn := ih (i + 1) (some (.int (nI 20004))) (by omega) (rCode (nI 20004) (rProd T h E (rTake T R))) ((rProd_inv hE _ hi.take).code _)
        unfold rLoop
        rw [if_pos ⟨by simp [is2, c1], c0⟩, show cd2 43 20004 20005 (rk T R) = nI 20004 from if_pos c1]
        exact hn
      · skip
        unfold rLoop
        rw [if_neg (fun z => c0 z.2)]
        refine r_iload_n dX5_readSum_7 rfl ?_
        refine r_sipush (v := nI 500) dX5_readSum_8 (by decide) ?_
        refine r_icmp_ge (tgt := 81) dX5_readSum_11 (by decide) (fun hz => absurd hz (show ¬ _ from (by rw [nI_leI (by omega) (by omega)]; omega))) (fun _ => ?_)
        refine r_aload_n dX5_readSum_14 rfl ?_
        refine r_getI dX5_readSum_15 fl_X5_35 rfl (k0) ?_
        rw [rI_rr _ _ _ o1 o2, show hRow (rk T R) R (I r) 7 = rk T R from rfl]
        refine r_bipush (v := nI 43) dX5_readSum_18 (by decide) ?_
        refine r_icmp_eq (tgt := 32) dX5_readSum_20 (by decide) (fun _ => ?_) (fun hz => absurd (show _ from c1) hz)
        refine r_aload_n dX5_readSum_32 rfl ?_
        refine r_getI dX5_readSum_33 fl_X5_50 rfl (k0) ?_
        rw [rI_rr _ _ _ o1 o2, show hRow (rk T R) R (I r) 11 = rf R from rfl]
        refine r_if_ne (tgt := 81) dX5_readSum_36 (by decide) (fun _ => ?_) (fun hz => absurd hz (show ¬ _ from c0))
        refine r_vret rfl dX5_readSum_81 ?_
        exact am_is.mk
    · by_cases c2 : rk T R = nI 45
      · by_cases c0 : rf R = 0
        · skip
          refine r_iload_n dX5_readSum_7 rfl ?_
          refine r_sipush (v := nI 500) dX5_readSum_8 (by decide) ?_
          refine r_icmp_ge (tgt := 81) dX5_readSum_11 (by decide) (fun hz => absurd hz (show ¬ _ from (by rw [nI_leI (by omega) (by omega)]; omega))) (fun _ => ?_)
          refine r_aload_n dX5_readSum_14 rfl ?_
          refine r_getI dX5_readSum_15 fl_X5_35 rfl (k0) ?_
          rw [rI_rr _ _ _ o1 o2, show hRow (rk T R) R (I r) 7 = rk T R from rfl]
          refine r_bipush (v := nI 43) dX5_readSum_18 (by decide) ?_
          refine r_icmp_eq (tgt := 32) dX5_readSum_20 (by decide) (fun hz => absurd hz (show ¬ _ from c1)) (fun _ => ?_)
          refine r_aload_n dX5_readSum_23 rfl ?_
          refine r_getI dX5_readSum_24 fl_X5_35 rfl (k0) ?_
          rw [rI_rr _ _ _ o1 o2, show hRow (rk T R) R (I r) 7 = rk T R from rfl]
          refine r_bipush (v := nI 45) dX5_readSum_27 (by decide) ?_
          refine r_icmp_ne (tgt := 81) dX5_readSum_29 (by decide) (fun hz => absurd (show _ from c2) hz) (fun _ => ?_)
          refine r_aload_n dX5_readSum_32 rfl ?_
          refine r_getI dX5_readSum_33 fl_X5_50 rfl (k0) ?_
          rw [rI_rr _ _ _ o1 o2, show hRow (rk T R) R (I r) 11 = rf R from rfl]
          refine r_if_ne (tgt := 81) dX5_readSum_36 (by decide) (fun hz => absurd (show _ from c0) hz) (fun _ => ?_)
          refine r_aload_n dX5_readSum_39 rfl ?_
          refine r_getI dX5_readSum_40 fl_X5_35 rfl (k0) ?_
          rw [rI_rr _ _ _ o1 o2, show hRow (rk T R) R (I r) 7 = rk T R from rfl]
          refine r_bipush (v := nI 43) dX5_readSum_43 (by decide) ?_
          refine r_icmp_ne (tgt := 54) dX5_readSum_45 (by decide) (fun _ => ?_) (fun hz => absurd hz (show ¬ _ from c1))
          refine r_sipush (v := nI 20005) dX5_readSum_54 (by decide) ?_
          refine r_istore_n dX5_readSum_57 (by decide) ?_
          refine r_aload_n dX5_readSum_58 rfl ?_
          refine r_virtV (c_X5_take r s l x XL T (R) h hB0 hi) lk_X5_183 mc_X5_take dX5_readSum_59 k0 (by omega) rfl rfl (Nat.le_of_ble_eq_true rfl) ?_
          refine r_aload_n dX5_readSum_62 rfl ?_
          refine r_iload_n dX5_readSum_63 rfl ?_
          refine r_virtV (c_X5_readProduct r s l x XL T h D w E hD hw hE hEc (rTake T R) hB0 hi.take) lk_X5_198 mc_X5_readProduct dX5_readSum_64 k0 (by omega) rfl rfl (Nat.le_of_ble_eq_true rfl) ?_
          refine r_aload_n dX5_readSum_67 rfl ?_
          refine r_getR dX5_readSum_68 fl_X5_38 rfl (k0) (x8) ?_
          refine r_iload_n dX5_readSum_71 rfl ?_
          refine r_virtV (c_codeR r s l x XL T (rProd T h E (rTake T R)) h (nI 20005) hB0 (rProd_inv hE _ hi.take)) lk_X5_186 mc_X7_addCode dX5_readSum_72 hS.1 (by omega) rfl rfl (Nat.le_of_ble_eq_true rfl) ?_
          refine r_iinc (v := nI (i + 1)) dX5_readSum_75 rfl (nI_inc i) ?_
          refine r_goto (tgt := 7) dX5_readSum_78 (by decide) ?_
          have hn := ih (i + 1) (some (.int (nI 20005))) (by omega) (rCode (nI 20005) (rProd T h E (rTake T R))) ((rProd_inv hE _ hi.take).code _)
          unfold rLoop
          rw [if_pos ⟨by simp [is2, c2], c0⟩, show cd2 43 20004 20005 (rk T R) = nI 20005 from if_neg c1]
          exact hn
        · skip
          unfold rLoop
          rw [if_neg (fun z => c0 z.2)]
          refine r_iload_n dX5_readSum_7 rfl ?_
          refine r_sipush (v := nI 500) dX5_readSum_8 (by decide) ?_
          refine r_icmp_ge (tgt := 81) dX5_readSum_11 (by decide) (fun hz => absurd hz (show ¬ _ from (by rw [nI_leI (by omega) (by omega)]; omega))) (fun _ => ?_)
          refine r_aload_n dX5_readSum_14 rfl ?_
          refine r_getI dX5_readSum_15 fl_X5_35 rfl (k0) ?_
          rw [rI_rr _ _ _ o1 o2, show hRow (rk T R) R (I r) 7 = rk T R from rfl]
          refine r_bipush (v := nI 43) dX5_readSum_18 (by decide) ?_
          refine r_icmp_eq (tgt := 32) dX5_readSum_20 (by decide) (fun hz => absurd hz (show ¬ _ from c1)) (fun _ => ?_)
          refine r_aload_n dX5_readSum_23 rfl ?_
          refine r_getI dX5_readSum_24 fl_X5_35 rfl (k0) ?_
          rw [rI_rr _ _ _ o1 o2, show hRow (rk T R) R (I r) 7 = rk T R from rfl]
          refine r_bipush (v := nI 45) dX5_readSum_27 (by decide) ?_
          refine r_icmp_ne (tgt := 81) dX5_readSum_29 (by decide) (fun hz => absurd (show _ from c2) hz) (fun _ => ?_)
          refine r_aload_n dX5_readSum_32 rfl ?_
          refine r_getI dX5_readSum_33 fl_X5_50 rfl (k0) ?_
          rw [rI_rr _ _ _ o1 o2, show hRow (rk T R) R (I r) 11 = rf R from rfl]
          refine r_if_ne (tgt := 81) dX5_readSum_36 (by decide) (fun _ => ?_) (fun hz => absurd hz (show ¬ _ from c0))
          refine r_vret rfl dX5_readSum_81 ?_
          exact am_is.mk
      · skip
        unfold rLoop
        rw [if_neg (fun z => by simp [is2, c1, c2] at z)]
        refine r_iload_n dX5_readSum_7 rfl ?_
        refine r_sipush (v := nI 500) dX5_readSum_8 (by decide) ?_
        refine r_icmp_ge (tgt := 81) dX5_readSum_11 (by decide) (fun hz => absurd hz (show ¬ _ from (by rw [nI_leI (by omega) (by omega)]; omega))) (fun _ => ?_)
        refine r_aload_n dX5_readSum_14 rfl ?_
        refine r_getI dX5_readSum_15 fl_X5_35 rfl (k0) ?_
        rw [rI_rr _ _ _ o1 o2, show hRow (rk T R) R (I r) 7 = rk T R from rfl]
        refine r_bipush (v := nI 43) dX5_readSum_18 (by decide) ?_
        refine r_icmp_eq (tgt := 32) dX5_readSum_20 (by decide) (fun hz => absurd hz (show ¬ _ from c1)) (fun _ => ?_)
        refine r_aload_n dX5_readSum_23 rfl ?_
        refine r_getI dX5_readSum_24 fl_X5_35 rfl (k0) ?_
        rw [rI_rr _ _ _ o1 o2, show hRow (rk T R) R (I r) 7 = rk T R from rfl]
        refine r_bipush (v := nI 45) dX5_readSum_27 (by decide) ?_
        refine r_icmp_ne (tgt := 81) dX5_readSum_29 (by decide) (fun _ => ?_) (fun hz => absurd hz (show ¬ _ from c2))
        refine r_vret rfl dX5_readSum_81 ?_
        exact am_is.mk

set_option maxHeartbeats 4000000 in
set_option maxRecDepth 100000 in
theorem c_X5_readSum (r s l x XL : Nat) (T : RT) (h : Nat) {n : Nat} {kd : mK} {I : mI} {J : mJ} {P : mP} (D w : Nat) (E : RS → RS) (hD : 3 < D) (hw : w < 6) (hE : ∀ R, rInv T h R → rInv T h (E R)) (hEc : ∀ R, rInv T h R → Ct yX5_readExpression cX5_readExpression 3 none D 0 0 [.ref r, .int (nI (w + 1))] n kd (rI r s l T (R) I) J P (am_is none n kd (rI r s l T (E R) I) J P)) (R : RS) (hB : rOK kd P I r s l x XL T) (hi : rInv T h R) : Ct yX5_readSum cX5_readSum 4 none (D + 3) 0 0 [.ref r, .int (nI w)] n kd (rI r s l T (R) I) J P (am_is none n kd (rI r s l T (rSum T h E R) I) J P) := by
  have hB0 := hB
  obtain ⟨⟨k0, k2, k3, k4⟩, ⟨x0, x2, x3, x4, x8, x9⟩, hS, hL, ⟨o1, o2⟩, ⟨kx, ox, xl⟩, ⟨i1, i5⟩, hT, ⟨t1, t2, t3, t4⟩, hBE, hX, hF⟩ := hB
  refine ct_of 2 (by decide +kernel) (Nat.le_of_ble_eq_true rfl) rfl ?_
  refine r_aload_n dX5_readSum_0 rfl ?_
  refine r_iload_n dX5_readSum_1 rfl ?_
  refine r_virtV (c_X5_readProduct r s l x XL T h D w E hD hw hE hEc (R) hB0 hi) lk_X5_198 mc_X5_readProduct dX5_readSum_2 k0 (by omega) rfl rfl (Nat.le_of_ble_eq_true rfl) ?_
  refine r_iconst (v := nI 0) dX5_readSum_5 (by decide) ?_
  refine r_istore_n dX5_readSum_6 (by decide) ?_
  exact w_X5_readSum r s l x XL T h D w E hD hw hE hEc hB0 500 0 _ (by omega) _ (rProd_inv hE R hi)

theorem dX5_readTest_0 : decode cX5_readTest 0 = .ok (.aload_n 0, 1) := by decide +kernel
theorem dX5_readTest_1 : decode cX5_readTest 1 = .ok (.iload_n 1, 1) := by decide +kernel
theorem dX5_readTest_2 : decode cX5_readTest 2 = .ok (.invokevirtual 195, 3) := by decide +kernel
theorem dX5_readTest_5 : decode cX5_readTest 5 = .ok (.aload_n 0, 1) := by decide +kernel
theorem dX5_readTest_6 : decode cX5_readTest 6 = .ok (.getfield 35, 3) := by decide +kernel
theorem dX5_readTest_9 : decode cX5_readTest 9 = .ok (.bipush 60, 2) := by decide +kernel
theorem dX5_readTest_11 : decode cX5_readTest 11 = .ok (.if_icmp .eq 12, 3) := by decide +kernel
theorem dX5_readTest_14 : decode cX5_readTest 14 = .ok (.aload_n 0, 1) := by decide +kernel
theorem dX5_readTest_15 : decode cX5_readTest 15 = .ok (.getfield 35, 3) := by decide +kernel
theorem dX5_readTest_18 : decode cX5_readTest 18 = .ok (.bipush 61, 2) := by decide +kernel
theorem dX5_readTest_20 : decode cX5_readTest 20 = .ok (.if_icmp .ne 46, 3) := by decide +kernel
theorem dX5_readTest_23 : decode cX5_readTest 23 = .ok (.aload_n 0, 1) := by decide +kernel
theorem dX5_readTest_24 : decode cX5_readTest 24 = .ok (.getfield 50, 3) := by decide +kernel
theorem dX5_readTest_27 : decode cX5_readTest 27 = .ok (.ifCond .ne 39, 3) := by decide +kernel
theorem dX5_readTest_30 : decode cX5_readTest 30 = .ok (.aload_n 0, 1) := by decide +kernel
theorem dX5_readTest_31 : decode cX5_readTest 31 = .ok (.getfield 35, 3) := by decide +kernel
theorem dX5_readTest_34 : decode cX5_readTest 34 = .ok (.bipush 60, 2) := by decide +kernel
theorem dX5_readTest_36 : decode cX5_readTest 36 = .ok (.if_icmp .ne 9, 3) := by decide +kernel
theorem dX5_readTest_39 : decode cX5_readTest 39 = .ok (.sipush 20008, 3) := by decide +kernel
theorem dX5_readTest_42 : decode cX5_readTest 42 = .ok (.goto 6, 3) := by decide +kernel
theorem dX5_readTest_45 : decode cX5_readTest 45 = .ok (.sipush 20009, 3) := by decide +kernel
theorem dX5_readTest_48 : decode cX5_readTest 48 = .ok (.istore_n 2, 1) := by decide +kernel
theorem dX5_readTest_49 : decode cX5_readTest 49 = .ok (.aload_n 0, 1) := by decide +kernel
theorem dX5_readTest_50 : decode cX5_readTest 50 = .ok (.invokevirtual 183, 3) := by decide +kernel
theorem dX5_readTest_53 : decode cX5_readTest 53 = .ok (.aload_n 0, 1) := by decide +kernel
theorem dX5_readTest_54 : decode cX5_readTest 54 = .ok (.iload_n 1, 1) := by decide +kernel
theorem dX5_readTest_55 : decode cX5_readTest 55 = .ok (.invokevirtual 195, 3) := by decide +kernel
theorem dX5_readTest_58 : decode cX5_readTest 58 = .ok (.aload_n 0, 1) := by decide +kernel
theorem dX5_readTest_59 : decode cX5_readTest 59 = .ok (.getfield 38, 3) := by decide +kernel
theorem dX5_readTest_62 : decode cX5_readTest 62 = .ok (.iload_n 2, 1) := by decide +kernel
theorem dX5_readTest_63 : decode cX5_readTest 63 = .ok (.invokevirtual 186, 3) := by decide +kernel
theorem dX5_readTest_66 : decode cX5_readTest 66 = .ok (.return_, 1) := by decide +kernel

set_option maxHeartbeats 4000000 in
set_option maxRecDepth 100000 in
theorem c_X5_readTest (r s l x XL : Nat) (T : RT) (h : Nat) {n : Nat} {kd : mK} {I : mI} {J : mJ} {P : mP} (D w : Nat) (E : RS → RS) (hD : 3 < D) (hw : w < 6) (hE : ∀ R, rInv T h R → rInv T h (E R)) (hEc : ∀ R, rInv T h R → Ct yX5_readExpression cX5_readExpression 3 none D 0 0 [.ref r, .int (nI (w + 1))] n kd (rI r s l T (R) I) J P (am_is none n kd (rI r s l T (E R) I) J P)) (R : RS) (hB : rOK kd P I r s l x XL T) (hi : rInv T h R) : Ct yX5_readTest cX5_readTest 3 none (D + 4) 0 0 [.ref r, .int (nI w)] n kd (rI r s l T (R) I) J P (am_is none n kd (rI r s l T (rTest T h E R) I) J P) := by
  have hB0 := hB
  obtain ⟨⟨k0, k2, k3, k4⟩, ⟨x0, x2, x3, x4, x8, x9⟩, hS, hL, ⟨o1, o2⟩, ⟨kx, ox, xl⟩, ⟨i1, i5⟩, hT, ⟨t1, t2, t3, t4⟩, hBE, hX, hF⟩ := hB
  refine ct_of 1 (by decide +kernel) (Nat.le_of_ble_eq_true rfl) rfl ?_
  unfold rTest rTest2
  by_cases c1 : rk T (rSum T h E R) = nI 60
  · by_cases c0 : rf (rSum T h E R) = 0
    · rw [if_pos ⟨by simp [is2, c1], c0⟩, show cd2 60 20008 20009 (rk T (rSum T h E R)) = nI 20008 from if_pos c1]
      refine r_aload_n dX5_readTest_0 rfl ?_
      refine r_iload_n dX5_readTest_1 rfl ?_
      refine r_virtV (c_X5_readSum r s l x XL T h D w E hD hw hE hEc (R) hB0 hi) lk_X5_195 mc_X5_readSum dX5_readTest_2 k0 (by omega) rfl rfl (Nat.le_of_ble_eq_true rfl) ?_
      refine r_aload_n dX5_readTest_5 rfl ?_
      refine r_getI dX5_readTest_6 fl_X5_35 rfl (k0) ?_
      rw [rI_rr _ _ _ o1 o2, show hRow (rk T (rSum T h E R)) (rSum T h E R) (I r) 7 = rk T (rSum T h E R) from rfl]
      refine r_bipush (v := nI 60) dX5_readTest_9 (by decide) ?_
      refine r_icmp_eq (tgt := 23) dX5_readTest_11 (by decide) (fun _ => ?_) (fun hz => absurd (show _ from c1) hz)
      refine r_aload_n dX5_readTest_23 rfl ?_
      refine r_getI dX5_readTest_24 fl_X5_50 rfl (k0) ?_
      rw [rI_rr _ _ _ o1 o2, show hRow (rk T (rSum T h E R)) (rSum T h E R) (I r) 11 = rf (rSum T h E R) from rfl]
      refine r_if_ne (tgt := 66) dX5_readTest_27 (by decide) (fun hz => absurd (show _ from c0) hz) (fun _ => ?_)
      refine r_aload_n dX5_readTest_30 rfl ?_
      refine r_getI dX5_readTest_31 fl_X5_35 rfl (k0) ?_
      rw [rI_rr _ _ _ o1 o2, show hRow (rk T (rSum T h E R)) (rSum T h E R) (I r) 7 = rk T (rSum T h E R) from rfl]
      refine r_bipush (v := nI 60) dX5_readTest_34 (by decide) ?_
      refine r_icmp_ne (tgt := 45) dX5_readTest_36 (by decide) (fun hz => absurd (show _ from c1) hz) (fun _ => ?_)
      refine r_sipush (v := nI 20008) dX5_readTest_39 (by decide) ?_
      refine r_goto (tgt := 48) dX5_readTest_42 (by decide) ?_
      refine r_istore_n dX5_readTest_48 (by decide) ?_
      refine r_aload_n dX5_readTest_49 rfl ?_
      refine r_virtV (c_X5_take r s l x XL T ((rSum T h E R)) h hB0 (rSum_inv hE R hi)) lk_X5_183 mc_X5_take dX5_readTest_50 k0 (by omega) rfl rfl (Nat.le_of_ble_eq_true rfl) ?_
      refine r_aload_n dX5_readTest_53 rfl ?_
      refine r_iload_n dX5_readTest_54 rfl ?_
      refine r_virtV (c_X5_readSum r s l x XL T h D w E hD hw hE hEc (rTake T (rSum T h E R)) hB0 (rSum_inv hE R hi).take) lk_X5_195 mc_X5_readSum dX5_readTest_55 k0 (by omega) rfl rfl (Nat.le_of_ble_eq_true rfl) ?_
      refine r_aload_n dX5_readTest_58 rfl ?_
      refine r_getR dX5_readTest_59 fl_X5_38 rfl (k0) (x8) ?_
      refine r_iload_n dX5_readTest_62 rfl ?_
      refine r_virtV (c_codeR r s l x XL T (rSum T h E (rTake T (rSum T h E R))) h (nI 20008) hB0 (rSum_inv hE _ (rSum_inv hE R hi).take)) lk_X5_186 mc_X7_addCode dX5_readTest_63 hS.1 (by omega) rfl rfl (Nat.le_of_ble_eq_true rfl) ?_
      refine r_vret rfl dX5_readTest_66 ?_
      exact am_is.mk
    · rw [if_neg (fun z => c0 z.2)]
      refine r_aload_n dX5_readTest_0 rfl ?_
      refine r_iload_n dX5_readTest_1 rfl ?_
      refine r_virtV (c_X5_readSum r s l x XL T h D w E hD hw hE hEc (R) hB0 hi) lk_X5_195 mc_X5_readSum dX5_readTest_2 k0 (by omega) rfl rfl (Nat.le_of_ble_eq_true rfl) ?_
      refine r_aload_n dX5_readTest_5 rfl ?_
      refine r_getI dX5_readTest_6 fl_X5_35 rfl (k0) ?_
      rw [rI_rr _ _ _ o1 o2, show hRow (rk T (rSum T h E R)) (rSum T h E R) (I r) 7 = rk T (rSum T h E R) from rfl]
      refine r_bipush (v := nI 60) dX5_readTest_9 (by decide) ?_
      refine r_icmp_eq (tgt := 23) dX5_readTest_11 (by decide) (fun _ => ?_) (fun hz => absurd (show _ from c1) hz)
      refine r_aload_n dX5_readTest_23 rfl ?_
      refine r_getI dX5_readTest_24 fl_X5_50 rfl (k0) ?_
      rw [rI_rr _ _ _ o1 o2, show hRow (rk T (rSum T h E R)) (rSum T h E R) (I r) 11 = rf (rSum T h E R) from rfl]
      refine r_if_ne (tgt := 66) dX5_readTest_27 (by decide) (fun _ => ?_) (fun hz => absurd hz (show ¬ _ from c0))
      refine r_vret rfl dX5_readTest_66 ?_
      exact am_is.mk
  · by_cases c2 : rk T (rSum T h E R) = nI 61
    · by_cases c0 : rf (rSum T h E R) = 0
      · rw [if_pos ⟨by simp [is2, c2], c0⟩, show cd2 60 20008 20009 (rk T (rSum T h E R)) = nI 20009 from if_neg c1]
        refine r_aload_n dX5_readTest_0 rfl ?_
        refine r_iload_n dX5_readTest_1 rfl ?_
        refine r_virtV (c_X5_readSum r s l x XL T h D w E hD hw hE hEc (R) hB0 hi) lk_X5_195 mc_X5_readSum dX5_readTest_2 k0 (by omega) rfl rfl (Nat.le_of_ble_eq_true rfl) ?_
        refine r_aload_n dX5_readTest_5 rfl ?_
        refine r_getI dX5_readTest_6 fl_X5_35 rfl (k0) ?_
        rw [rI_rr _ _ _ o1 o2, show hRow (rk T (rSum T h E R)) (rSum T h E R) (I r) 7 = rk T (rSum T h E R) from rfl]
        refine r_bipush (v := nI 60) dX5_readTest_9 (by decide) ?_
        refine r_icmp_eq (tgt := 23) dX5_readTest_11 (by decide) (fun hz => absurd hz (show ¬ _ from c1)) (fun _ => ?_)
        refine r_aload_n dX5_readTest_14 rfl ?_
        refine r_getI dX5_readTest_15 fl_X5_35 rfl (k0) ?_
        rw [rI_rr _ _ _ o1 o2, show hRow (rk T (rSum T h E R)) (rSum T h E R) (I r) 7 = rk T (rSum T h E R) from rfl]
        refine r_bipush (v := nI 61) dX5_readTest_18 (by decide) ?_
        refine r_icmp_ne (tgt := 66) dX5_readTest_20 (by decide) (fun hz => absurd (show _ from c2) hz) (fun _ => ?_)
        refine r_aload_n dX5_readTest_23 rfl ?_
        refine r_getI dX5_readTest_24 fl_X5_50 rfl (k0) ?_
        rw [rI_rr _ _ _ o1 o2, show hRow (rk T (rSum T h E R)) (rSum T h E R) (I r) 11 = rf (rSum T h E R) from rfl]
        refine r_if_ne (tgt := 66) dX5_readTest_27 (by decide) (fun hz => absurd (show _ from c0) hz) (fun _ => ?_)
        refine r_aload_n dX5_readTest_30 rfl ?_
        refine r_getI dX5_readTest_31 fl_X5_35 rfl (k0) ?_
        rw [rI_rr _ _ _ o1 o2, show hRow (rk T (rSum T h E R)) (rSum T h E R) (I r) 7 = rk T (rSum T h E R) from rfl]
        refine r_bipush (v := nI 60) dX5_readTest_34 (by decide) ?_
        refine r_icmp_ne (tgt := 45) dX5_readTest_36 (by decide) (fun _ => ?_) (fun hz => absurd hz (show ¬ _ from c1))
        refine r_sipush (v := nI 20009) dX5_readTest_45 (by decide) ?_
        refine r_istore_n dX5_readTest_48 (by decide) ?_
        refine r_aload_n dX5_readTest_49 rfl ?_
        refine r_virtV (c_X5_take r s l x XL T ((rSum T h E R)) h hB0 (rSum_inv hE R hi)) lk_X5_183 mc_X5_take dX5_readTest_50 k0 (by omega) rfl rfl (Nat.le_of_ble_eq_true rfl) ?_
        refine r_aload_n dX5_readTest_53 rfl ?_
        refine r_iload_n dX5_readTest_54 rfl ?_
        refine r_virtV (c_X5_readSum r s l x XL T h D w E hD hw hE hEc (rTake T (rSum T h E R)) hB0 (rSum_inv hE R hi).take) lk_X5_195 mc_X5_readSum dX5_readTest_55 k0 (by omega) rfl rfl (Nat.le_of_ble_eq_true rfl) ?_
        refine r_aload_n dX5_readTest_58 rfl ?_
        refine r_getR dX5_readTest_59 fl_X5_38 rfl (k0) (x8) ?_
        refine r_iload_n dX5_readTest_62 rfl ?_
        refine r_virtV (c_codeR r s l x XL T (rSum T h E (rTake T (rSum T h E R))) h (nI 20009) hB0 (rSum_inv hE _ (rSum_inv hE R hi).take)) lk_X5_186 mc_X7_addCode dX5_readTest_63 hS.1 (by omega) rfl rfl (Nat.le_of_ble_eq_true rfl) ?_
        refine r_vret rfl dX5_readTest_66 ?_
        exact am_is.mk
      · rw [if_neg (fun z => c0 z.2)]
        refine r_aload_n dX5_readTest_0 rfl ?_
        refine r_iload_n dX5_readTest_1 rfl ?_
        refine r_virtV (c_X5_readSum r s l x XL T h D w E hD hw hE hEc (R) hB0 hi) lk_X5_195 mc_X5_readSum dX5_readTest_2 k0 (by omega) rfl rfl (Nat.le_of_ble_eq_true rfl) ?_
        refine r_aload_n dX5_readTest_5 rfl ?_
        refine r_getI dX5_readTest_6 fl_X5_35 rfl (k0) ?_
        rw [rI_rr _ _ _ o1 o2, show hRow (rk T (rSum T h E R)) (rSum T h E R) (I r) 7 = rk T (rSum T h E R) from rfl]
        refine r_bipush (v := nI 60) dX5_readTest_9 (by decide) ?_
        refine r_icmp_eq (tgt := 23) dX5_readTest_11 (by decide) (fun hz => absurd hz (show ¬ _ from c1)) (fun _ => ?_)
        refine r_aload_n dX5_readTest_14 rfl ?_
        refine r_getI dX5_readTest_15 fl_X5_35 rfl (k0) ?_
        rw [rI_rr _ _ _ o1 o2, show hRow (rk T (rSum T h E R)) (rSum T h E R) (I r) 7 = rk T (rSum T h E R) from rfl]
        refine r_bipush (v := nI 61) dX5_readTest_18 (by decide) ?_
        refine r_icmp_ne (tgt := 66) dX5_readTest_20 (by decide) (fun hz => absurd (show _ from c2) hz) (fun _ => ?_)
        refine r_aload_n dX5_readTest_23 rfl ?_
        refine r_getI dX5_readTest_24 fl_X5_50 rfl (k0) ?_
        rw [rI_rr _ _ _ o1 o2, show hRow (rk T (rSum T h E R)) (rSum T h E R) (I r) 11 = rf (rSum T h E R) from rfl]
        refine r_if_ne (tgt := 66) dX5_readTest_27 (by decide) (fun _ => ?_) (fun hz => absurd hz (show ¬ _ from c0))
        refine r_vret rfl dX5_readTest_66 ?_
        exact am_is.mk
    · rw [if_neg (fun z => by simp [is2, c1, c2] at z)]
      refine r_aload_n dX5_readTest_0 rfl ?_
      refine r_iload_n dX5_readTest_1 rfl ?_
      refine r_virtV (c_X5_readSum r s l x XL T h D w E hD hw hE hEc (R) hB0 hi) lk_X5_195 mc_X5_readSum dX5_readTest_2 k0 (by omega) rfl rfl (Nat.le_of_ble_eq_true rfl) ?_
      refine r_aload_n dX5_readTest_5 rfl ?_
      refine r_getI dX5_readTest_6 fl_X5_35 rfl (k0) ?_
      rw [rI_rr _ _ _ o1 o2, show hRow (rk T (rSum T h E R)) (rSum T h E R) (I r) 7 = rk T (rSum T h E R) from rfl]
      refine r_bipush (v := nI 60) dX5_readTest_9 (by decide) ?_
      refine r_icmp_eq (tgt := 23) dX5_readTest_11 (by decide) (fun hz => absurd hz (show ¬ _ from c1)) (fun _ => ?_)
      refine r_aload_n dX5_readTest_14 rfl ?_
      refine r_getI dX5_readTest_15 fl_X5_35 rfl (k0) ?_
      rw [rI_rr _ _ _ o1 o2, show hRow (rk T (rSum T h E R)) (rSum T h E R) (I r) 7 = rk T (rSum T h E R) from rfl]
      refine r_bipush (v := nI 61) dX5_readTest_18 (by decide) ?_
      refine r_icmp_ne (tgt := 66) dX5_readTest_20 (by decide) (fun _ => ?_) (fun hz => absurd hz (show ¬ _ from c2))
      refine r_vret rfl dX5_readTest_66 ?_
      exact am_is.mk


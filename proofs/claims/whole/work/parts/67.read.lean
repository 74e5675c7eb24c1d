/-! A TEXT READ -/
def nO (x : Int32) : Nat := x.toBitVec.toNat
theorem nO_eq (x : Int32) : nI (nO x) = x := by
  apply Int32.toBitVec_inj.mp
  apply BitVec.eq_of_toNat_eq
  rw [pk_tn (by unfold nO; exact x.toBitVec.isLt)]
  rfl
def ssOf (I : mI) (s : Nat) : SS := (nO (I s 0), I s 1, I s 2, I s 3, nO (I s 6), nO (I s 10), I (s + 1), I (s + 2), I (s + 3), I (s + 4), I (s + 5), I (s + 6), I (s + 7))
theorem sI_self (s : Nat) (I : mI) : sI s (ssOf I s) I = I := by
  funext a
  simp only [sI, ssOf]
  by_cases h0 : a = s
  · subst h0
    rw [if_pos rfl]
    funext j
    simp only [sRow, nO_eq]
    by_cases j0 : j = 0
    · simp [j0]
    by_cases j1 : j = 1
    · simp [j1]
    by_cases j2 : j = 2
    · simp [j2]
    by_cases j3 : j = 3
    · simp [j3]
    by_cases j6 : j = 6
    · simp [j6]
    by_cases j10 : j = 10
    · simp [j10]
    simp [j0, j1, j2, j3, j6, j10]
  rw [if_neg h0]
  by_cases h1 : a = s + 1
  · simp [h1]
  by_cases h2 : a = s + 2
  · simp [h2]
  by_cases h3 : a = s + 3
  · simp [h3]
  by_cases h4 : a = s + 4
  · simp [h4]
  by_cases h5 : a = s + 5
  · simp [h5]
  by_cases h6 : a = s + 6
  · simp [h6]
  by_cases h7 : a = s + 7
  · simp [h7]
  simp [h1, h2, h3, h4, h5, h6, h7]
theorem sRow_sRow (q q2 : SS) (W : Nat → Int32) : sRow q (sRow q2 W) = sRow q W := by
  obtain ⟨ho, mo, un, ri, cd, tl, w⟩ := q
  obtain ⟨ho2, mo2, un2, ri2, cd2, tl2, w2⟩ := q2
  funext j
  simp only [sRow]
  by_cases j0 : j = 0
  · simp [j0]
  by_cases j1 : j = 1
  · simp [j1]
  by_cases j2 : j = 2
  · simp [j2]
  by_cases j3 : j = 3
  · simp [j3]
  by_cases j6 : j = 6
  · simp [j6]
  by_cases j10 : j = 10
  · simp [j10]
  simp [j0, j1, j2, j3, j6, j10]
theorem sI_sI (s : Nat) (q q2 : SS) (I : mI) : sI s q (sI s q2 I) = sI s q I := by
  funext a
  by_cases ha : a < s ∨ s + 7 < a
  · rw [sI_ne _ _ ha, sI_ne _ _ ha, sI_ne _ _ ha]
  obtain ⟨ho, mo, un, ri, cd, tl, lo, co, cf, ct, tx, tf, tt⟩ := q
  obtain ⟨ho2, mo2, un2, ri2, cd2, tl2, lo2, co2, cf2, ct2, tx2, tf2, tt2⟩ := q2
  rcases (show a = s ∨ a = s + 1 ∨ a = s + 2 ∨ a = s + 3 ∨ a = s + 4 ∨ a = s + 5 ∨ a = s + 6 ∨ a = s + 7 by omega) with rfl | rfl | rfl | rfl | rfl | rfl | rfl | rfl
  · simp only [sI, if_true]; exact sRow_sRow _ _ _
  all_goals simp [sI]
set_option maxHeartbeats 4000000 in
set_option maxRecDepth 100000 in
theorem c_clearG (s : Nat) {n : Nat} {kd : mK} {I : mI} {J : mJ} {P : mP} (hS : kS kd P s) : Ct yX7_clear cX7_clear 1 none 1 0 0 [.ref s] n kd I J P (am_is none n kd (sI s (SS.clear (ssOf I s)) I) J P) := by
  have h := c_X7_clear (n := n) (kd := kd) (J := J) (P := P) (I := I) s (nO (I s 0)) (nO (I s 6)) (nO (I s 10)) (I s 1) (I s 2) (I s 3) (I (s + 1)) (I (s + 2)) (I (s + 3)) (I (s + 4)) (I (s + 5)) (I (s + 6)) (I (s + 7)) hS
  have e : sI s (nO (I s 0), I s 1, I s 2, I s 3, nO (I s 6), nO (I s 10), I (s + 1), I (s + 2), I (s + 3), I (s + 4), I (s + 5), I (s + 6), I (s + 7)) I = I := sI_self s I
  rw [e] at h
  exact h

theorem dX5_read_0 : decode cX5_read 0 = .ok (.aload_n 0, 1) := by decide +kernel
theorem dX5_read_1 : decode cX5_read 1 = .ok (.aload_n 1, 1) := by decide +kernel
theorem dX5_read_2 : decode cX5_read 2 = .ok (.putfield 9, 3) := by decide +kernel
theorem dX5_read_5 : decode cX5_read 5 = .ok (.aload_n 0, 1) := by decide +kernel
theorem dX5_read_6 : decode cX5_read 6 = .ok (.iload_n 2, 1) := by decide +kernel
theorem dX5_read_7 : decode cX5_read 7 = .ok (.aload_n 1, 1) := by decide +kernel
theorem dX5_read_8 : decode cX5_read 8 = .ok (.arraylength, 1) := by decide +kernel
theorem dX5_read_9 : decode cX5_read 9 = .ok (.invokestatic 56, 3) := by decide +kernel
theorem dX5_read_12 : decode cX5_read 12 = .ok (.sipush 500, 3) := by decide +kernel
theorem dX5_read_15 : decode cX5_read 15 = .ok (.invokestatic 56, 3) := by decide +kernel
theorem dX5_read_18 : decode cX5_read 18 = .ok (.putfield 15, 3) := by decide +kernel
theorem dX5_read_21 : decode cX5_read 21 = .ok (.aload_n 0, 1) := by decide +kernel
theorem dX5_read_22 : decode cX5_read 22 = .ok (.aload_n 3, 1) := by decide +kernel
theorem dX5_read_23 : decode cX5_read 23 = .ok (.putfield 38, 3) := by decide +kernel
theorem dX5_read_26 : decode cX5_read 26 = .ok (.aload_n 0, 1) := by decide +kernel
theorem dX5_read_27 : decode cX5_read 27 = .ok (.aload 4, 2) := by decide +kernel
theorem dX5_read_29 : decode cX5_read 29 = .ok (.putfield 42, 3) := by decide +kernel
theorem dX5_read_32 : decode cX5_read 32 = .ok (.aload_n 0, 1) := by decide +kernel
theorem dX5_read_33 : decode cX5_read 33 = .ok (.getfield 38, 3) := by decide +kernel
theorem dX5_read_36 : decode cX5_read 36 = .ok (.invokevirtual 62, 3) := by decide +kernel
theorem dX5_read_39 : decode cX5_read 39 = .ok (.aload_n 0, 1) := by decide +kernel
theorem dX5_read_40 : decode cX5_read 40 = .ok (.getfield 42, 3) := by decide +kernel
theorem dX5_read_43 : decode cX5_read 43 = .ok (.invokevirtual 67, 3) := by decide +kernel
theorem dX5_read_46 : decode cX5_read 46 = .ok (.aload_n 0, 1) := by decide +kernel
theorem dX5_read_47 : decode cX5_read 47 = .ok (.iconst 0, 1) := by decide +kernel
theorem dX5_read_48 : decode cX5_read 48 = .ok (.putfield 46, 3) := by decide +kernel
theorem dX5_read_51 : decode cX5_read 51 = .ok (.aload_n 0, 1) := by decide +kernel
theorem dX5_read_52 : decode cX5_read 52 = .ok (.iconst 0, 1) := by decide +kernel
theorem dX5_read_53 : decode cX5_read 53 = .ok (.putfield 50, 3) := by decide +kernel
theorem dX5_read_56 : decode cX5_read 56 = .ok (.aload_n 0, 1) := by decide +kernel
theorem dX5_read_57 : decode cX5_read 57 = .ok (.iconst (-1), 1) := by decide +kernel
theorem dX5_read_58 : decode cX5_read 58 = .ok (.putfield 53, 3) := by decide +kernel
theorem dX5_read_61 : decode cX5_read 61 = .ok (.aload_n 0, 1) := by decide +kernel
theorem dX5_read_62 : decode cX5_read 62 = .ok (.invokevirtual 70, 3) := by decide +kernel
theorem dX5_read_65 : decode cX5_read 65 = .ok (.aload_n 0, 1) := by decide +kernel
theorem dX5_read_66 : decode cX5_read 66 = .ok (.iconst 0, 1) := by decide +kernel
theorem dX5_read_67 : decode cX5_read 67 = .ok (.putfield 32, 3) := by decide +kernel
theorem dX5_read_70 : decode cX5_read 70 = .ok (.aload_n 0, 1) := by decide +kernel
theorem dX5_read_71 : decode cX5_read 71 = .ok (.aload_n 0, 1) := by decide +kernel
theorem dX5_read_72 : decode cX5_read 72 = .ok (.getfield 19, 3) := by decide +kernel
theorem dX5_read_75 : decode cX5_read 75 = .ok (.iconst 0, 1) := by decide +kernel
theorem dX5_read_76 : decode cX5_read 76 = .ok (.iaload, 1) := by decide +kernel
theorem dX5_read_77 : decode cX5_read 77 = .ok (.putfield 35, 3) := by decide +kernel
theorem dX5_read_80 : decode cX5_read 80 = .ok (.iconst 0, 1) := by decide +kernel
theorem dX5_read_81 : decode cX5_read 81 = .ok (.istore 5, 2) := by decide +kernel
theorem dX5_read_83 : decode cX5_read 83 = .ok (.iload 5, 2) := by decide +kernel
theorem dX5_read_85 : decode cX5_read 85 = .ok (.aload_n 0, 1) := by decide +kernel
theorem dX5_read_86 : decode cX5_read 86 = .ok (.getfield 29, 3) := by decide +kernel
theorem dX5_read_89 : decode cX5_read 89 = .ok (.if_icmp .ge 85, 3) := by decide +kernel
theorem dX5_read_92 : decode cX5_read 92 = .ok (.aload_n 0, 1) := by decide +kernel
theorem dX5_read_93 : decode cX5_read 93 = .ok (.getfield 35, 3) := by decide +kernel
theorem dX5_read_96 : decode cX5_read 96 = .ok (.ifCond .eq 78, 3) := by decide +kernel
theorem dX5_read_99 : decode cX5_read 99 = .ok (.aload_n 0, 1) := by decide +kernel
theorem dX5_read_100 : decode cX5_read 100 = .ok (.getfield 50, 3) := by decide +kernel
theorem dX5_read_103 : decode cX5_read 103 = .ok (.ifCond .ne 71, 3) := by decide +kernel
theorem dX5_read_106 : decode cX5_read 106 = .ok (.aload_n 0, 1) := by decide +kernel
theorem dX5_read_107 : decode cX5_read 107 = .ok (.getfield 35, 3) := by decide +kernel
theorem dX5_read_110 : decode cX5_read 110 = .ok (.sipush 129, 3) := by decide +kernel
theorem dX5_read_113 : decode cX5_read 113 = .ok (.if_icmp .ne 10, 3) := by decide +kernel
theorem dX5_read_116 : decode cX5_read 116 = .ok (.aload_n 0, 1) := by decide +kernel
theorem dX5_read_117 : decode cX5_read 117 = .ok (.invokevirtual 73, 3) := by decide +kernel
theorem dX5_read_120 : decode cX5_read 120 = .ok (.goto 42, 3) := by decide +kernel
theorem dX5_read_123 : decode cX5_read 123 = .ok (.aload_n 0, 1) := by decide +kernel
theorem dX5_read_124 : decode cX5_read 124 = .ok (.getfield 35, 3) := by decide +kernel
theorem dX5_read_127 : decode cX5_read 127 = .ok (.sipush 130, 3) := by decide +kernel
theorem dX5_read_130 : decode cX5_read 130 = .ok (.if_icmp .ne 10, 3) := by decide +kernel
theorem dX5_read_133 : decode cX5_read 133 = .ok (.aload_n 0, 1) := by decide +kernel
theorem dX5_read_134 : decode cX5_read 134 = .ok (.invokevirtual 76, 3) := by decide +kernel
theorem dX5_read_137 : decode cX5_read 137 = .ok (.goto 25, 3) := by decide +kernel
theorem dX5_read_140 : decode cX5_read 140 = .ok (.aload_n 0, 1) := by decide +kernel
theorem dX5_read_141 : decode cX5_read 141 = .ok (.getfield 35, 3) := by decide +kernel
theorem dX5_read_144 : decode cX5_read 144 = .ok (.sipush 131, 3) := by decide +kernel
theorem dX5_read_147 : decode cX5_read 147 = .ok (.if_icmp .ne 10, 3) := by decide +kernel
theorem dX5_read_150 : decode cX5_read 150 = .ok (.aload_n 0, 1) := by decide +kernel
theorem dX5_read_151 : decode cX5_read 151 = .ok (.invokevirtual 79, 3) := by decide +kernel
theorem dX5_read_154 : decode cX5_read 154 = .ok (.goto 8, 3) := by decide +kernel
theorem dX5_read_157 : decode cX5_read 157 = .ok (.aload_n 0, 1) := by decide +kernel
theorem dX5_read_158 : decode cX5_read 158 = .ok (.iconst 1, 1) := by decide +kernel
theorem dX5_read_159 : decode cX5_read 159 = .ok (.invokevirtual 82, 3) := by decide +kernel
theorem dX5_read_162 : decode cX5_read 162 = .ok (.aload_n 0, 1) := by decide +kernel
theorem dX5_read_163 : decode cX5_read 163 = .ok (.bipush 59, 2) := by decide +kernel
theorem dX5_read_165 : decode cX5_read 165 = .ok (.invokevirtual 86, 3) := by decide +kernel
theorem dX5_read_168 : decode cX5_read 168 = .ok (.iinc 5 1, 3) := by decide +kernel
theorem dX5_read_171 : decode cX5_read 171 = .ok (.goto (-88), 3) := by decide +kernel
theorem dX5_read_174 : decode cX5_read 174 = .ok (.aload_n 0, 1) := by decide +kernel
theorem dX5_read_175 : decode cX5_read 175 = .ok (.getfield 50, 3) := by decide +kernel
theorem dX5_read_178 : decode cX5_read 178 = .ok (.ifCond .ne 7, 3) := by decide +kernel
theorem dX5_read_181 : decode cX5_read 181 = .ok (.iconst 1, 1) := by decide +kernel
theorem dX5_read_182 : decode cX5_read 182 = .ok (.goto 4, 3) := by decide +kernel
theorem dX5_read_185 : decode cX5_read 185 = .ok (.iconst 0, 1) := by decide +kernel
theorem dX5_read_186 : decode cX5_read 186 = .ok (.ireturn, 1) := by decide +kernel

section
variable {T : RT} {R : RS}
theorem rMost_a (ha : R.1 < T.2.1) : (rMost T R).1 < T.2.1 := by
  unfold rMost rMost2
  split
  · rw [rFail_a]; exact ha
  · exact rNx_a (by show (rNumR T _ _ _).1 < _; rw [rNum_a]; exact rNx_a ha)
theorem rUnl_a (ha : R.1 < T.2.1) : (rUnl T R).1 < T.2.1 := by
  unfold rUnl
  split
  · rw [rFail_a]; exact ha
  · exact rNx_a ha
theorem rHouse_a (hi : lInv T R) : (rHouse T R).1 < T.2.1 := by
  unfold rHouse
  split
  · rw [rFail_a]; exact hi.1
  · rename_i h8
    have h8 : (rQ R).1 < 8 := by omega
    have hb := house_begin h8 hi.2.2.1 hi.2.2.2
    have hq : rQ (rSons T (rQ R).1 (rNx T (rSt R (SS.house (rQ R))))) = SS.house (rQ R) := by rw [rSons_q, rNx_q]; rfl
    exact (rSays_inv (h := (rQ R).1) (R := rSons T (rQ R).1 (rNx T (rSt R (SS.house (rQ R))))) h8 (rSons_a (rNx_a hi.1)) (by rw [hq]; exact hb.1) (by rw [hq]; exact hb.2.1)).1
end
set_option maxHeartbeats 4000000 in
set_option maxRecDepth 100000 in
theorem w_X5_read (r s l x XL : Nat) (T : RT) (N : Int32) {n : Nat} {kd : mK} {I : mI} {J : mJ} {P : mP} (hB : rOK kd P I r s l x XL T) : ∀ (k i : Nat), i + k = T.2.1 → ∀ R, lInv T R → Ru yX5_read.cls cX5_read 6 (some .boolean) yX5_read.name 61 (am_is (some (.int (bz (decide (rf (rLines T k R) = 0))))) n kd (rI r s l T (rLines T k R) I) J P) 0 0 83 [some (.ref r), some (.ref x), some (.int N), some (.ref s), some (.ref l), some (.int (nI i))] [] n kd (rI r s l T (R) I) J P := by
  have hB0 := hB
  obtain ⟨⟨k0, k2, k3, k4⟩, ⟨x0, x2, x3, x4, x8, x9⟩, hS, hL, ⟨o1, o2⟩, ⟨kx, ox, xl⟩, ⟨i1, i5⟩, hT, ⟨t1, t2, t3, t4⟩, hBE, hX, hF⟩ := hB
  intro k
  induction k with
  | zero =>
    intro i hi0 R hi
    have hi1 : i = T.2.1 := by omega
    subst hi1
    unfold rLines
    by_cases z9 : rf R = 0
    · rw [show bz (decide (rf R = 0)) = nI 1 by simp [z9, bz]]
      refine r_iload dX5_read_83 rfl ?_
      refine r_aload_n dX5_read_85 rfl ?_
      refine r_getI dX5_read_86 fl_X5_29 rfl (k0) ?_
      rw [rI_rr _ _ _ o1 o2, show hRow _ _ _ 5 = _ from i5]
      refine r_icmp_ge (tgt := 174) dX5_read_89 (by decide) (fun _ => ?_) (fun hz => absurd (show _ from (by rw [nI_leI (by omega) (by omega)]; omega)) hz)
      refine r_aload_n dX5_read_174 rfl ?_
      refine r_getI dX5_read_175 fl_X5_50 rfl (k0) ?_
      rw [rI_rr _ _ _ o1 o2, show hRow (rk T R) R (I r) 11 = rf R from rfl]
      refine r_if_ne (tgt := 185) dX5_read_178 (by decide) (fun hz => absurd (show _ from z9) hz) (fun _ => ?_)
      refine r_iconst (v := nI 1) dX5_read_181 (by decide) ?_
      refine r_goto (tgt := 186) dX5_read_182 (by decide) ?_
      refine r_zret rfl dX5_read_186 (by first | exact Or.inl rfl | exact Or.inr rfl | assumption) ?_
      exact am_is.mk
    · rw [show bz (decide (rf R = 0)) = nI 0 by simp [z9, bz]]
      refine r_iload dX5_read_83 rfl ?_
      refine r_aload_n dX5_read_85 rfl ?_
      refine r_getI dX5_read_86 fl_X5_29 rfl (k0) ?_
      rw [rI_rr _ _ _ o1 o2, show hRow _ _ _ 5 = _ from i5]
      refine r_icmp_ge (tgt := 174) dX5_read_89 (by decide) (fun _ => ?_) (fun hz => absurd (show _ from (by rw [nI_leI (by omega) (by omega)]; omega)) hz)
      refine r_aload_n dX5_read_174 rfl ?_
      refine r_getI dX5_read_175 fl_X5_50 rfl (k0) ?_
      rw [rI_rr _ _ _ o1 o2, show hRow (rk T R) R (I r) 11 = rf R from rfl]
      refine r_if_ne (tgt := 185) dX5_read_178 (by decide) (fun _ => ?_) (fun hz => absurd hz (show ¬ _ from z9))
      refine r_iconst (v := nI 0) dX5_read_185 (by decide) ?_
      refine r_zret rfl dX5_read_186 (by first | exact Or.inl rfl | exact Or.inr rfl | assumption) ?_
      exact am_is.mk
  | succ k ih =>
    intro i hi0 R hi
    unfold rLines
    by_cases c1 : rk T R = 0
    · rw [if_neg (fun z => z.1 c1)]
      by_cases z9 : rf R = 0
      · rw [show bz (decide (rf R = 0)) = nI 1 by simp [z9, bz]]
        refine r_iload dX5_read_83 rfl ?_
        refine r_aload_n dX5_read_85 rfl ?_
        refine r_getI dX5_read_86 fl_X5_29 rfl (k0) ?_
        rw [rI_rr _ _ _ o1 o2, show hRow _ _ _ 5 = _ from i5]
        refine r_icmp_ge (tgt := 174) dX5_read_89 (by decide) (fun hz => absurd hz (show ¬ _ from (by rw [nI_leI (by omega) (by omega)]; omega))) (fun _ => ?_)
        refine r_aload_n dX5_read_92 rfl ?_
        refine r_getI dX5_read_93 fl_X5_35 rfl (k0) ?_
        rw [rI_rr _ _ _ o1 o2, show hRow (rk T R) R (I r) 7 = rk T R from rfl]
        refine r_if_eq (tgt := 174) dX5_read_96 (by decide) (fun _ => ?_) (fun hz => absurd (show _ from c1) hz)
        refine r_aload_n dX5_read_174 rfl ?_
        refine r_getI dX5_read_175 fl_X5_50 rfl (k0) ?_
        rw [rI_rr _ _ _ o1 o2, show hRow (rk T R) R (I r) 11 = rf R from rfl]
        refine r_if_ne (tgt := 185) dX5_read_178 (by decide) (fun hz => absurd (show _ from z9) hz) (fun _ => ?_)
        refine r_iconst (v := nI 1) dX5_read_181 (by decide) ?_
        refine r_goto (tgt := 186) dX5_read_182 (by decide) ?_
        refine r_zret rfl dX5_read_186 (by first | exact Or.inl rfl | exact Or.inr rfl | assumption) ?_
        exact am_is.mk
      · rw [show bz (decide (rf R = 0)) = nI 0 by simp [z9, bz]]
        refine r_iload dX5_read_83 rfl ?_
        refine r_aload_n dX5_read_85 rfl ?_
        refine r_getI dX5_read_86 fl_X5_29 rfl (k0) ?_
        rw [rI_rr _ _ _ o1 o2, show hRow _ _ _ 5 = _ from i5]
        refine r_icmp_ge (tgt := 174) dX5_read_89 (by decide) (fun hz => absurd hz (show ¬ _ from (by rw [nI_leI (by omega) (by omega)]; omega))) (fun _ => ?_)
        refine r_aload_n dX5_read_92 rfl ?_
        refine r_getI dX5_read_93 fl_X5_35 rfl (k0) ?_
        rw [rI_rr _ _ _ o1 o2, show hRow (rk T R) R (I r) 7 = rk T R from rfl]
        refine r_if_eq (tgt := 174) dX5_read_96 (by decide) (fun _ => ?_) (fun hz => absurd (show _ from c1) hz)
        refine r_aload_n dX5_read_174 rfl ?_
        refine r_getI dX5_read_175 fl_X5_50 rfl (k0) ?_
        rw [rI_rr _ _ _ o1 o2, show hRow (rk T R) R (I r) 11 = rf R from rfl]
        refine r_if_ne (tgt := 185) dX5_read_178 (by decide) (fun _ => ?_) (fun hz => absurd hz (show ¬ _ from z9))
        refine r_iconst (v := nI 0) dX5_read_185 (by decide) ?_
        refine r_zret rfl dX5_read_186 (by first | exact Or.inl rfl | exact Or.inr rfl | assumption) ?_
        exact am_is.mk
    · by_cases c0 : rf R = 0
      · rw [if_pos ⟨c1, c0⟩]
        have hn := ih (i + 1) (by omega) (rLine T R) (rLine_inv hi)
        unfold rLine at hn ⊢
        by_cases d1 : rk T R = nI 129
        · rw [if_pos d1] at hn ⊢
          have hq : (rMost T R).1 < T.2.1 := rMost_a hi.1
          refine r_iload dX5_read_83 rfl ?_
          refine r_aload_n dX5_read_85 rfl ?_
          refine r_getI dX5_read_86 fl_X5_29 rfl (k0) ?_
          rw [rI_rr _ _ _ o1 o2, show hRow _ _ _ 5 = _ from i5]
          refine r_icmp_ge (tgt := 174) dX5_read_89 (by decide) (fun hz => absurd hz (show ¬ _ from (by rw [nI_leI (by omega) (by omega)]; omega))) (fun _ => ?_)
          refine r_aload_n dX5_read_92 rfl ?_
          refine r_getI dX5_read_93 fl_X5_35 rfl (k0) ?_
          rw [rI_rr _ _ _ o1 o2, show hRow (rk T R) R (I r) 7 = rk T R from rfl]
          refine r_if_eq (tgt := 174) dX5_read_96 (by decide) (fun hz => absurd hz (show ¬ _ from c1)) (fun _ => ?_)
          refine r_aload_n dX5_read_99 rfl ?_
          refine r_getI dX5_read_100 fl_X5_50 rfl (k0) ?_
          rw [rI_rr _ _ _ o1 o2, show hRow (rk T R) R (I r) 11 = rf R from rfl]
          refine r_if_ne (tgt := 174) dX5_read_103 (by decide) (fun hz => absurd (show _ from c0) hz) (fun _ => ?_)
          refine r_aload_n dX5_read_106 rfl ?_
          refine r_getI dX5_read_107 fl_X5_35 rfl (k0) ?_
          rw [rI_rr _ _ _ o1 o2, show hRow (rk T R) R (I r) 7 = rk T R from rfl]
          refine r_sipush (v := nI 129) dX5_read_110 (by decide) ?_
          refine r_icmp_ne (tgt := 123) dX5_read_113 (by decide) (fun hz => absurd (show _ from d1) hz) (fun _ => ?_)
          refine r_aload_n dX5_read_116 rfl ?_
          refine r_virtV (c_X5_readMost r s l x XL T R hB0 hi.1) lk_X5_73 mc_X5_readMost dX5_read_117 k0 (by decide) rfl rfl (Nat.le_of_ble_eq_true rfl) ?_
          refine r_goto (tgt := 162) dX5_read_120 (by decide) ?_
          refine r_aload_n dX5_read_162 rfl ?_
          refine r_bipush (v := nI 59) dX5_read_163 (by decide) ?_
          refine r_virtV (c_X5_pass r s l x XL T (rMost T R) (nI 59) hB0 hq) lk_X5_86 mc_X5_pass dX5_read_165 k0 (by decide) rfl rfl (Nat.le_of_ble_eq_true rfl) ?_
          refine r_iinc (v := nI (i + 1)) dX5_read_168 rfl (nI_inc i) ?_
          refine r_goto (tgt := 83) dX5_read_171 (by decide) ?_
          exact hn
        rw [if_neg d1] at hn ⊢
        by_cases d2 : rk T R = nI 130
        · rw [if_pos d2] at hn ⊢
          have hq : (rUnl T R).1 < T.2.1 := rUnl_a hi.1
          refine r_iload dX5_read_83 rfl ?_
          refine r_aload_n dX5_read_85 rfl ?_
          refine r_getI dX5_read_86 fl_X5_29 rfl (k0) ?_
          rw [rI_rr _ _ _ o1 o2, show hRow _ _ _ 5 = _ from i5]
          refine r_icmp_ge (tgt := 174) dX5_read_89 (by decide) (fun hz => absurd hz (show ¬ _ from (by rw [nI_leI (by omega) (by omega)]; omega))) (fun _ => ?_)
          refine r_aload_n dX5_read_92 rfl ?_
          refine r_getI dX5_read_93 fl_X5_35 rfl (k0) ?_
          rw [rI_rr _ _ _ o1 o2, show hRow (rk T R) R (I r) 7 = rk T R from rfl]
          refine r_if_eq (tgt := 174) dX5_read_96 (by decide) (fun hz => absurd hz (show ¬ _ from c1)) (fun _ => ?_)
          refine r_aload_n dX5_read_99 rfl ?_
          refine r_getI dX5_read_100 fl_X5_50 rfl (k0) ?_
          rw [rI_rr _ _ _ o1 o2, show hRow (rk T R) R (I r) 11 = rf R from rfl]
          refine r_if_ne (tgt := 174) dX5_read_103 (by decide) (fun hz => absurd (show _ from c0) hz) (fun _ => ?_)
          refine r_aload_n dX5_read_106 rfl ?_
          refine r_getI dX5_read_107 fl_X5_35 rfl (k0) ?_
          rw [rI_rr _ _ _ o1 o2, show hRow (rk T R) R (I r) 7 = rk T R from rfl]
          refine r_sipush (v := nI 129) dX5_read_110 (by decide) ?_
          refine r_icmp_ne (tgt := 123) dX5_read_113 (by decide) (fun _ => ?_) (fun hz => absurd hz (show ¬ _ from d1))
          refine r_aload_n dX5_read_123 rfl ?_
          refine r_getI dX5_read_124 fl_X5_35 rfl (k0) ?_
          rw [rI_rr _ _ _ o1 o2, show hRow (rk T R) R (I r) 7 = rk T R from rfl]
          refine r_sipush (v := nI 130) dX5_read_127 (by decide) ?_
          refine r_icmp_ne (tgt := 140) dX5_read_130 (by decide) (fun hz => absurd (show _ from d2) hz) (fun _ => ?_)
          refine r_aload_n dX5_read_133 rfl ?_
          refine r_virtV (c_X5_readUnlike r s l x XL T R hB0 hi.1) lk_X5_76 mc_X5_readUnlike dX5_read_134 k0 (by decide) rfl rfl (Nat.le_of_ble_eq_true rfl) ?_
          refine r_goto (tgt := 162) dX5_read_137 (by decide) ?_
          refine r_aload_n dX5_read_162 rfl ?_
          refine r_bipush (v := nI 59) dX5_read_163 (by decide) ?_
          refine r_virtV (c_X5_pass r s l x XL T (rUnl T R) (nI 59) hB0 hq) lk_X5_86 mc_X5_pass dX5_read_165 k0 (by decide) rfl rfl (Nat.le_of_ble_eq_true rfl) ?_
          refine r_iinc (v := nI (i + 1)) dX5_read_168 rfl (nI_inc i) ?_
          refine r_goto (tgt := 83) dX5_read_171 (by decide) ?_
          exact hn
        rw [if_neg d2] at hn ⊢
        by_cases d3 : rk T R = nI 131
        · rw [if_pos d3] at hn ⊢
          have hq : (rHouse T R).1 < T.2.1 := rHouse_a hi
          refine r_iload dX5_read_83 rfl ?_
          refine r_aload_n dX5_read_85 rfl ?_
          refine r_getI dX5_read_86 fl_X5_29 rfl (k0) ?_
          rw [rI_rr _ _ _ o1 o2, show hRow _ _ _ 5 = _ from i5]
          refine r_icmp_ge (tgt := 174) dX5_read_89 (by decide) (fun hz => absurd hz (show ¬ _ from (by rw [nI_leI (by omega) (by omega)]; omega))) (fun _ => ?_)
          refine r_aload_n dX5_read_92 rfl ?_
          refine r_getI dX5_read_93 fl_X5_35 rfl (k0) ?_
          rw [rI_rr _ _ _ o1 o2, show hRow (rk T R) R (I r) 7 = rk T R from rfl]
          refine r_if_eq (tgt := 174) dX5_read_96 (by decide) (fun hz => absurd hz (show ¬ _ from c1)) (fun _ => ?_)
          refine r_aload_n dX5_read_99 rfl ?_
          refine r_getI dX5_read_100 fl_X5_50 rfl (k0) ?_
          rw [rI_rr _ _ _ o1 o2, show hRow (rk T R) R (I r) 11 = rf R from rfl]
          refine r_if_ne (tgt := 174) dX5_read_103 (by decide) (fun hz => absurd (show _ from c0) hz) (fun _ => ?_)
          refine r_aload_n dX5_read_106 rfl ?_
          refine r_getI dX5_read_107 fl_X5_35 rfl (k0) ?_
          rw [rI_rr _ _ _ o1 o2, show hRow (rk T R) R (I r) 7 = rk T R from rfl]
          refine r_sipush (v := nI 129) dX5_read_110 (by decide) ?_
          refine r_icmp_ne (tgt := 123) dX5_read_113 (by decide) (fun _ => ?_) (fun hz => absurd hz (show ¬ _ from d1))
          refine r_aload_n dX5_read_123 rfl ?_
          refine r_getI dX5_read_124 fl_X5_35 rfl (k0) ?_
          rw [rI_rr _ _ _ o1 o2, show hRow (rk T R) R (I r) 7 = rk T R from rfl]
          refine r_sipush (v := nI 130) dX5_read_127 (by decide) ?_
          refine r_icmp_ne (tgt := 140) dX5_read_130 (by decide) (fun _ => ?_) (fun hz => absurd hz (show ¬ _ from d2))
          refine r_aload_n dX5_read_140 rfl ?_
          refine r_getI dX5_read_141 fl_X5_35 rfl (k0) ?_
          rw [rI_rr _ _ _ o1 o2, show hRow (rk T R) R (I r) 7 = rk T R from rfl]
          refine r_sipush (v := nI 131) dX5_read_144 (by decide) ?_
          refine r_icmp_ne (tgt := 157) dX5_read_147 (by decide) (fun hz => absurd (show _ from d3) hz) (fun _ => ?_)
          refine r_aload_n dX5_read_150 rfl ?_
          refine r_virtV (c_X5_readHouse r s l x XL T R hB0 hi) lk_X5_79 mc_X5_readHouse dX5_read_151 k0 (by decide) rfl rfl (Nat.le_of_ble_eq_true rfl) ?_
          refine r_goto (tgt := 162) dX5_read_154 (by decide) ?_
          refine r_aload_n dX5_read_162 rfl ?_
          refine r_bipush (v := nI 59) dX5_read_163 (by decide) ?_
          refine r_virtV (c_X5_pass r s l x XL T (rHouse T R) (nI 59) hB0 hq) lk_X5_86 mc_X5_pass dX5_read_165 k0 (by decide) rfl rfl (Nat.le_of_ble_eq_true rfl) ?_
          refine r_iinc (v := nI (i + 1)) dX5_read_168 rfl (nI_inc i) ?_
          refine r_goto (tgt := 83) dX5_read_171 (by decide) ?_
          exact hn
        rw [if_neg d3] at hn ⊢
        have hq : (rFail T (nI 1) R).1 < T.2.1 := by rw [rFail_a]; exact hi.1
        refine r_iload dX5_read_83 rfl ?_
        refine r_aload_n dX5_read_85 rfl ?_
        refine r_getI dX5_read_86 fl_X5_29 rfl (k0) ?_
        rw [rI_rr _ _ _ o1 o2, show hRow _ _ _ 5 = _ from i5]
        refine r_icmp_ge (tgt := 174) dX5_read_89 (by decide) (fun hz => absurd hz (show ¬ _ from (by rw [nI_leI (by omega) (by omega)]; omega))) (fun _ => ?_)
        refine r_aload_n dX5_read_92 rfl ?_
        refine r_getI dX5_read_93 fl_X5_35 rfl (k0) ?_
        rw [rI_rr _ _ _ o1 o2, show hRow (rk T R) R (I r) 7 = rk T R from rfl]
        refine r_if_eq (tgt := 174) dX5_read_96 (by decide) (fun hz => absurd hz (show ¬ _ from c1)) (fun _ => ?_)
        refine r_aload_n dX5_read_99 rfl ?_
        refine r_getI dX5_read_100 fl_X5_50 rfl (k0) ?_
        rw [rI_rr _ _ _ o1 o2, show hRow (rk T R) R (I r) 11 = rf R from rfl]
        refine r_if_ne (tgt := 174) dX5_read_103 (by decide) (fun hz => absurd (show _ from c0) hz) (fun _ => ?_)
        refine r_aload_n dX5_read_106 rfl ?_
        refine r_getI dX5_read_107 fl_X5_35 rfl (k0) ?_
        rw [rI_rr _ _ _ o1 o2, show hRow (rk T R) R (I r) 7 = rk T R from rfl]
        refine r_sipush (v := nI 129) dX5_read_110 (by decide) ?_
        refine r_icmp_ne (tgt := 123) dX5_read_113 (by decide) (fun _ => ?_) (fun hz => absurd hz (show ¬ _ from d1))
        refine r_aload_n dX5_read_123 rfl ?_
        refine r_getI dX5_read_124 fl_X5_35 rfl (k0) ?_
        rw [rI_rr _ _ _ o1 o2, show hRow (rk T R) R (I r) 7 = rk T R from rfl]
        refine r_sipush (v := nI 130) dX5_read_127 (by decide) ?_
        refine r_icmp_ne (tgt := 140) dX5_read_130 (by decide) (fun _ => ?_) (fun hz => absurd hz (show ¬ _ from d2))
        refine r_aload_n dX5_read_140 rfl ?_
        refine r_getI dX5_read_141 fl_X5_35 rfl (k0) ?_
        rw [rI_rr _ _ _ o1 o2, show hRow (rk T R) R (I r) 7 = rk T R from rfl]
        refine r_sipush (v := nI 131) dX5_read_144 (by decide) ?_
        refine r_icmp_ne (tgt := 157) dX5_read_147 (by decide) (fun _ => ?_) (fun hz => absurd hz (show ¬ _ from d3))
        refine r_aload_n dX5_read_157 rfl ?_
        refine r_iconst (v := nI 1) dX5_read_158 (by decide) ?_
        refine r_virtV (c_X5_fail r s l x XL T R (nI 1) hB0 hi.1) lk_X5_82 mc_X5_fail dX5_read_159 k0 (by decide) rfl rfl (Nat.le_of_ble_eq_true rfl) ?_
        refine r_aload_n dX5_read_162 rfl ?_
        refine r_bipush (v := nI 59) dX5_read_163 (by decide) ?_
        refine r_virtV (c_X5_pass r s l x XL T (rFail T (nI 1) R) (nI 59) hB0 hq) lk_X5_86 mc_X5_pass dX5_read_165 k0 (by decide) rfl rfl (Nat.le_of_ble_eq_true rfl) ?_
        refine r_iinc (v := nI (i + 1)) dX5_read_168 rfl (nI_inc i) ?_
        refine r_goto (tgt := 83) dX5_read_171 (by decide) ?_
        exact hn
      · rw [if_neg (fun z => c0 z.2)]
        by_cases z9 : rf R = 0
        · rw [show bz (decide (rf R = 0)) = nI 1 by simp [z9, bz]]
          refine r_iload dX5_read_83 rfl ?_
          refine r_aload_n dX5_read_85 rfl ?_
          refine r_getI dX5_read_86 fl_X5_29 rfl (k0) ?_
          rw [rI_rr _ _ _ o1 o2, show hRow _ _ _ 5 = _ from i5]
          refine r_icmp_ge (tgt := 174) dX5_read_89 (by decide) (fun hz => absurd hz (show ¬ _ from (by rw [nI_leI (by omega) (by omega)]; omega))) (fun _ => ?_)
          refine r_aload_n dX5_read_92 rfl ?_
          refine r_getI dX5_read_93 fl_X5_35 rfl (k0) ?_
          rw [rI_rr _ _ _ o1 o2, show hRow (rk T R) R (I r) 7 = rk T R from rfl]
          refine r_if_eq (tgt := 174) dX5_read_96 (by decide) (fun hz => absurd hz (show ¬ _ from c1)) (fun _ => ?_)
          refine r_aload_n dX5_read_99 rfl ?_
          refine r_getI dX5_read_100 fl_X5_50 rfl (k0) ?_
          rw [rI_rr _ _ _ o1 o2, show hRow (rk T R) R (I r) 11 = rf R from rfl]
          refine r_if_ne (tgt := 174) dX5_read_103 (by decide) (fun _ => ?_) (fun hz => absurd hz (show ¬ _ from c0))
          refine r_aload_n dX5_read_174 rfl ?_
          refine r_getI dX5_read_175 fl_X5_50 rfl (k0) ?_
          rw [rI_rr _ _ _ o1 o2, show hRow (rk T R) R (I r) 11 = rf R from rfl]
          refine r_if_ne (tgt := 185) dX5_read_178 (by decide) (fun hz => absurd (show _ from z9) hz) (fun _ => ?_)
          refine r_iconst (v := nI 1) dX5_read_181 (by decide) ?_
          refine r_goto (tgt := 186) dX5_read_182 (by decide) ?_
          refine r_zret rfl dX5_read_186 (by first | exact Or.inl rfl | exact Or.inr rfl | assumption) ?_
          exact am_is.mk
        · rw [show bz (decide (rf R = 0)) = nI 0 by simp [z9, bz]]
          refine r_iload dX5_read_83 rfl ?_
          refine r_aload_n dX5_read_85 rfl ?_
          refine r_getI dX5_read_86 fl_X5_29 rfl (k0) ?_
          rw [rI_rr _ _ _ o1 o2, show hRow _ _ _ 5 = _ from i5]
          refine r_icmp_ge (tgt := 174) dX5_read_89 (by decide) (fun hz => absurd hz (show ¬ _ from (by rw [nI_leI (by omega) (by omega)]; omega))) (fun _ => ?_)
          refine r_aload_n dX5_read_92 rfl ?_
          refine r_getI dX5_read_93 fl_X5_35 rfl (k0) ?_
          rw [rI_rr _ _ _ o1 o2, show hRow (rk T R) R (I r) 7 = rk T R from rfl]
          refine r_if_eq (tgt := 174) dX5_read_96 (by decide) (fun hz => absurd hz (show ¬ _ from c1)) (fun _ => ?_)
          refine r_aload_n dX5_read_99 rfl ?_
          refine r_getI dX5_read_100 fl_X5_50 rfl (k0) ?_
          rw [rI_rr _ _ _ o1 o2, show hRow (rk T R) R (I r) 11 = rf R from rfl]
          refine r_if_ne (tgt := 174) dX5_read_103 (by decide) (fun _ => ?_) (fun hz => absurd hz (show ¬ _ from c0))
          refine r_aload_n dX5_read_174 rfl ?_
          refine r_getI dX5_read_175 fl_X5_50 rfl (k0) ?_
          rw [rI_rr _ _ _ o1 o2, show hRow (rk T R) R (I r) 11 = rf R from rfl]
          refine r_if_ne (tgt := 185) dX5_read_178 (by decide) (fun _ => ?_) (fun hz => absurd hz (show ¬ _ from z9))
          refine r_iconst (v := nI 0) dX5_read_185 (by decide) ?_
          refine r_zret rfl dX5_read_186 (by first | exact Or.inl rfl | exact Or.inr rfl | assumption) ?_
          exact am_is.mk


/-! THE SEARCH, IN THE REFERENCE -/
def xM (I : mI) (m : Nat) (Pl R Nb r : Nat → Int32) : mI := va_up (va_up (va_up (va_up I (m + 26) Pl) (m + 25) R) (m + 27) Nb) m r
section XM
variable {I : mI} {m : Nat} {Pl R Nb r : Nat → Int32}
theorem xM_m : xM I m Pl R Nb r m = r := am_up_s _ _ _
theorem xM_25 : xM I m Pl R Nb r (m + 25) = R := by unfold xM; rw [am_up_n _ _ (by omega), am_up_n _ _ (by omega), am_up_s]
theorem xM_27 : xM I m Pl R Nb r (m + 27) = Nb := by unfold xM; rw [am_up_n _ _ (by omega), am_up_s]
theorem xM_n {a : Nat} (h1 : a ≠ m + 26) (h2 : a ≠ m + 25) (h3 : a ≠ m + 27) (h4 : a ≠ m) : xM I m Pl R Nb r a = I a := by unfold xM; rw [am_up_n _ _ h4, am_up_n _ _ h3, am_up_n _ _ h2, am_up_n _ _ h1]
theorem xM_um {x : Nat → Int32} : va_up (xM I m Pl R Nb r) m x = xM I m Pl R Nb x := by unfold xM; rw [am_up_up]
theorem xM_u27 {x : Nat → Int32} : va_up (xM I m Pl R Nb r) (m + 27) x = xM I m Pl R x r := by unfold xM; rw [am_up_cm _ _ _ (by omega : m ≠ m + 27), am_up_up]
theorem xM_u25 {x : Nat → Int32} : va_up (xM I m Pl R Nb r) (m + 25) x = xM I m Pl x Nb r := by unfold xM; rw [am_up_cm _ _ _ (by omega : m ≠ m + 25), am_up_cm _ _ _ (by omega : m + 27 ≠ m + 25), am_up_up]
theorem xM_u26 {x : Nat → Int32} : va_up (xM I m Pl R Nb r) (m + 26) x = xM I m x R Nb r := by unfold xM; rw [am_up_cm _ _ _ (by omega : m ≠ m + 26), am_up_cm _ _ _ (by omega : m + 27 ≠ m + 26), am_up_cm _ _ _ (by omega : m + 25 ≠ m + 26), am_up_up]
end XM
def qR (r : Nat → Int32) (F t : Int32) : Nat → Int32 := va_up (va_up r 52 F) 53 t
theorem qR52 (r : Nat → Int32) (F t : Int32) : qR r F t 52 = F := by simp [qR, va_up]
theorem qR53 (r : Nat → Int32) (F t : Int32) : qR r F t 53 = t := by simp [qR, va_up]
theorem qRn (r : Nat → Int32) (F t : Int32) {k : Nat} (h1 : k ≠ 52) (h2 : k ≠ 53) : qR r F t k = r k := by unfold qR; rw [am_up_n _ _ h2, am_up_n _ _ h1]
theorem qR_52 (r : Nat → Int32) (F t x : Int32) : va_up (qR r F t) 52 x = qR r x t := by unfold qR; rw [am_up_cm _ _ _ (by decide : (53 : Nat) ≠ 52), am_up_up]
theorem qR_53 (r : Nat → Int32) (F t x : Int32) : va_up (qR r F t) 53 x = qR r F x := by unfold qR; rw [am_up_up]
/-- a numbering's numbers put down -/
def nrS (R B : Nat → Int32) (F : Nat) : Nat → Nat → Int32
  | 0 => B
  | k + 1 => va_up (nrS R B F k) (8 * F + k) (R k)
def NR (H : Nat) (B0 : Nat → Int32) : List (Nat → Nat) → Nat → Int32
  | [] => B0
  | N :: fs => nrS (rN N) (NR H B0 fs) fs.length H
theorem nrS_congr {R R' B : Nat → Int32} {F : Nat} : ∀ {i : Nat}, (∀ j, j < i → R j = R' j) → nrS R B F i = nrS R' B F i
  | 0, _ => rfl
  | i + 1, h => by rw [nrS, nrS, nrS_congr (fun j hj => h j (by omega)), h i (by omega)]
/-- does the number of house h stand, the numbers being N: as the reference asks it -/
def TR (I : mI) (m H L : Nat) (r w : Int32) (lk : Nat → Nat) (tv : (Nat → Nat) → Nat → Bool) (N : Nat → Nat) (h : Nat) : Bool := (decide (w = 0) || ltl (I (m + 24)) (nI h) (nI (N h)) L 0) && ((decide (I m 3 = 0) || unl (rN N) (nI (N h)) h 0) && rlR r (fun k => awS (lk k) k) h (tv N) H 0)
def cutF (fs : List (Nat → Nat)) : List (Nat → Nat) := if fs.length ≤ 1000 then fs else fs.tail
def xkP (m H : Nat) (B0 r0 : Nat → Int32) (res : Nat × List (Nat → Nat) × Bool) (n : Nat) (kd : mK) (I : mI) (J : mJ) (P : mP) : am_Post := fun z n' kd' I' J' P' => ∃ Pl R : Nat → Int32, am_is (some (.int (bz (!res.2.2 && decide (res.2.1.length ≤ 1000))))) n kd (xM I m Pl R (NR H B0 (cutF res.2.1)) (qR r0 (nI (cutF res.2.1).length) (nI res.1))) J P z n' kd' I' J' P'
theorem up_le {R : Nat → Int32} {N : Nat → Nat} {h : Nat} (v : Nat) (hR : ∀ j, j ≤ h → R j = nI (N j)) : ∀ j, j ≤ h → va_up R h (nI v) j = nI (upN N h v j) := by
  intro j hj
  unfold upN
  by_cases e : j = h
  · subst e; rw [am_up_s, if_pos rfl]
  · rw [am_up_n _ _ e, if_neg e, hR j hj]
theorem dX10_seeks_0 : decode cX10_seeks 0 = .ok (.aload_n 0, 1) := by decide +kernel
theorem dX10_seeks_1 : decode cX10_seeks 1 = .ok (.iconst 0, 1) := by decide +kernel
theorem dX10_seeks_2 : decode cX10_seeks 2 = .ok (.putfield 413, 3) := by decide +kernel
theorem dX10_seeks_5 : decode cX10_seeks 5 = .ok (.aload_n 0, 1) := by decide +kernel
theorem dX10_seeks_6 : decode cX10_seeks 6 = .ok (.iconst 0, 1) := by decide +kernel
theorem dX10_seeks_7 : decode cX10_seeks 7 = .ok (.putfield 416, 3) := by decide +kernel
theorem dX10_seeks_10 : decode cX10_seeks 10 = .ok (.aload_n 0, 1) := by decide +kernel
theorem dX10_seeks_11 : decode cX10_seeks 11 = .ok (.getfield 350, 3) := by decide +kernel
theorem dX10_seeks_14 : decode cX10_seeks 14 = .ok (.ifCond .ne 10, 3) := by decide +kernel
theorem dX10_seeks_17 : decode cX10_seeks 17 = .ok (.aload_n 0, 1) := by decide +kernel
theorem dX10_seeks_18 : decode cX10_seeks 18 = .ok (.iconst 1, 1) := by decide +kernel
theorem dX10_seeks_19 : decode cX10_seeks 19 = .ok (.putfield 413, 3) := by decide +kernel
theorem dX10_seeks_22 : decode cX10_seeks 22 = .ok (.iconst 1, 1) := by decide +kernel
theorem dX10_seeks_23 : decode cX10_seeks 23 = .ok (.ireturn, 1) := by decide +kernel
theorem dX10_seeks_24 : decode cX10_seeks 24 = .ok (.iconst 0, 1) := by decide +kernel
theorem dX10_seeks_25 : decode cX10_seeks 25 = .ok (.istore 4, 2) := by decide +kernel
theorem dX10_seeks_27 : decode cX10_seeks 27 = .ok (.aload_n 0, 1) := by decide +kernel
theorem dX10_seeks_28 : decode cX10_seeks 28 = .ok (.getfield 90, 3) := by decide +kernel
theorem dX10_seeks_31 : decode cX10_seeks 31 = .ok (.iconst 0, 1) := by decide +kernel
theorem dX10_seeks_32 : decode cX10_seeks 32 = .ok (.iconst 0, 1) := by decide +kernel
theorem dX10_seeks_33 : decode cX10_seeks 33 = .ok (.iastore, 1) := by decide +kernel
theorem dX10_seeks_34 : decode cX10_seeks 34 = .ok (.iload 4, 2) := by decide +kernel
theorem dX10_seeks_36 : decode cX10_seeks 36 = .ok (.ifCond .lt 203, 3) := by decide +kernel
theorem dX10_seeks_39 : decode cX10_seeks 39 = .ok (.iload 4, 2) := by decide +kernel
theorem dX10_seeks_41 : decode cX10_seeks 41 = .ok (.aload_n 0, 1) := by decide +kernel
theorem dX10_seeks_42 : decode cX10_seeks 42 = .ok (.getfield 102, 3) := by decide +kernel
theorem dX10_seeks_45 : decode cX10_seeks 45 = .ok (.if_icmp .ne 30, 3) := by decide +kernel
theorem dX10_seeks_48 : decode cX10_seeks 48 = .ok (.aload_n 0, 1) := by decide +kernel
theorem dX10_seeks_49 : decode cX10_seeks 49 = .ok (.getfield 90, 3) := by decide +kernel
theorem dX10_seeks_52 : decode cX10_seeks 52 = .ok (.iload 4, 2) := by decide +kernel
theorem dX10_seeks_54 : decode cX10_seeks 54 = .ok (.iaload, 1) := by decide +kernel
theorem dX10_seeks_55 : decode cX10_seeks 55 = .ok (.iconst 1, 1) := by decide +kernel
theorem dX10_seeks_56 : decode cX10_seeks 56 = .ok (.iadd, 1) := by decide +kernel
theorem dX10_seeks_57 : decode cX10_seeks 57 = .ok (.aload_n 0, 1) := by decide +kernel
theorem dX10_seeks_58 : decode cX10_seeks 58 = .ok (.getfield 419, 3) := by decide +kernel
theorem dX10_seeks_61 : decode cX10_seeks 61 = .ok (.if_icmp .ne 14, 3) := by decide +kernel
theorem dX10_seeks_64 : decode cX10_seeks 64 = .ok (.aload_n 0, 1) := by decide +kernel
theorem dX10_seeks_65 : decode cX10_seeks 65 = .ok (.getfield 90, 3) := by decide +kernel
theorem dX10_seeks_68 : decode cX10_seeks 68 = .ok (.iload 4, 2) := by decide +kernel
theorem dX10_seeks_70 : decode cX10_seeks 70 = .ok (.dup2, 1) := by decide +kernel
theorem dX10_seeks_71 : decode cX10_seeks 71 = .ok (.iaload, 1) := by decide +kernel
theorem dX10_seeks_72 : decode cX10_seeks 72 = .ok (.iconst 1, 1) := by decide +kernel
theorem dX10_seeks_73 : decode cX10_seeks 73 = .ok (.iadd, 1) := by decide +kernel
theorem dX10_seeks_74 : decode cX10_seeks 74 = .ok (.iastore, 1) := by decide +kernel
theorem dX10_seeks_75 : decode cX10_seeks 75 = .ok (.aload_n 0, 1) := by decide +kernel
theorem dX10_seeks_76 : decode cX10_seeks 76 = .ok (.getfield 90, 3) := by decide +kernel
theorem dX10_seeks_79 : decode cX10_seeks 79 = .ok (.iload 4, 2) := by decide +kernel
theorem dX10_seeks_81 : decode cX10_seeks 81 = .ok (.iaload, 1) := by decide +kernel
theorem dX10_seeks_82 : decode cX10_seeks 82 = .ok (.aload_n 0, 1) := by decide +kernel
theorem dX10_seeks_83 : decode cX10_seeks 83 = .ok (.getfield 7, 3) := by decide +kernel
theorem dX10_seeks_86 : decode cX10_seeks 86 = .ok (.if_icmp .ne 9, 3) := by decide +kernel
theorem dX10_seeks_89 : decode cX10_seeks 89 = .ok (.iinc 4 (-1), 3) := by decide +kernel
theorem dX10_seeks_92 : decode cX10_seeks 92 = .ok (.goto (-58), 3) := by decide +kernel
theorem dX10_seeks_95 : decode cX10_seeks 95 = .ok (.aload_n 0, 1) := by decide +kernel
theorem dX10_seeks_96 : decode cX10_seeks 96 = .ok (.getfield 416, 3) := by decide +kernel
theorem dX10_seeks_99 : decode cX10_seeks 99 = .ok (.sipush 20000, 3) := by decide +kernel
theorem dX10_seeks_102 : decode cX10_seeks 102 = .ok (.if_icmp .ne 5, 3) := by decide +kernel
theorem dX10_seeks_105 : decode cX10_seeks 105 = .ok (.iconst 0, 1) := by decide +kernel
theorem dX10_seeks_106 : decode cX10_seeks 106 = .ok (.ireturn, 1) := by decide +kernel
theorem dX10_seeks_107 : decode cX10_seeks 107 = .ok (.aload_n 0, 1) := by decide +kernel
theorem dX10_seeks_108 : decode cX10_seeks 108 = .ok (.getfield 90, 3) := by decide +kernel
theorem dX10_seeks_111 : decode cX10_seeks 111 = .ok (.iload 4, 2) := by decide +kernel
theorem dX10_seeks_113 : decode cX10_seeks 113 = .ok (.dup2, 1) := by decide +kernel
theorem dX10_seeks_114 : decode cX10_seeks 114 = .ok (.iaload, 1) := by decide +kernel
theorem dX10_seeks_115 : decode cX10_seeks 115 = .ok (.iconst 1, 1) := by decide +kernel
theorem dX10_seeks_116 : decode cX10_seeks 116 = .ok (.iadd, 1) := by decide +kernel
theorem dX10_seeks_117 : decode cX10_seeks 117 = .ok (.iastore, 1) := by decide +kernel
theorem dX10_seeks_118 : decode cX10_seeks 118 = .ok (.aload_n 0, 1) := by decide +kernel
theorem dX10_seeks_119 : decode cX10_seeks 119 = .ok (.dup, 1) := by decide +kernel
theorem dX10_seeks_120 : decode cX10_seeks 120 = .ok (.getfield 416, 3) := by decide +kernel
theorem dX10_seeks_123 : decode cX10_seeks 123 = .ok (.iconst 1, 1) := by decide +kernel
theorem dX10_seeks_124 : decode cX10_seeks 124 = .ok (.iadd, 1) := by decide +kernel
theorem dX10_seeks_125 : decode cX10_seeks 125 = .ok (.putfield 416, 3) := by decide +kernel
theorem dX10_seeks_128 : decode cX10_seeks 128 = .ok (.aload_n 0, 1) := by decide +kernel
theorem dX10_seeks_129 : decode cX10_seeks 129 = .ok (.iload 4, 2) := by decide +kernel
theorem dX10_seeks_131 : decode cX10_seeks 131 = .ok (.iload_n 1, 1) := by decide +kernel
theorem dX10_seeks_132 : decode cX10_seeks 132 = .ok (.iload_n 2, 1) := by decide +kernel
theorem dX10_seeks_133 : decode cX10_seeks 133 = .ok (.invokevirtual 422, 3) := by decide +kernel
theorem dX10_seeks_136 : decode cX10_seeks 136 = .ok (.ifCond .ne 6, 3) := by decide +kernel
theorem dX10_seeks_139 : decode cX10_seeks 139 = .ok (.goto (-105), 3) := by decide +kernel
theorem dX10_seeks_142 : decode cX10_seeks 142 = .ok (.iload 4, 2) := by decide +kernel
theorem dX10_seeks_144 : decode cX10_seeks 144 = .ok (.aload_n 0, 1) := by decide +kernel
theorem dX10_seeks_145 : decode cX10_seeks 145 = .ok (.getfield 350, 3) := by decide +kernel
theorem dX10_seeks_148 : decode cX10_seeks 148 = .ok (.iconst 1, 1) := by decide +kernel
theorem dX10_seeks_149 : decode cX10_seeks 149 = .ok (.isub, 1) := by decide +kernel
theorem dX10_seeks_150 : decode cX10_seeks 150 = .ok (.if_icmp .ge 17, 3) := by decide +kernel
theorem dX10_seeks_153 : decode cX10_seeks 153 = .ok (.iinc 4 1, 3) := by decide +kernel
theorem dX10_seeks_156 : decode cX10_seeks 156 = .ok (.aload_n 0, 1) := by decide +kernel
theorem dX10_seeks_157 : decode cX10_seeks 157 = .ok (.getfield 90, 3) := by decide +kernel
theorem dX10_seeks_160 : decode cX10_seeks 160 = .ok (.iload 4, 2) := by decide +kernel
theorem dX10_seeks_162 : decode cX10_seeks 162 = .ok (.iconst 0, 1) := by decide +kernel
theorem dX10_seeks_163 : decode cX10_seeks 163 = .ok (.iastore, 1) := by decide +kernel
theorem dX10_seeks_164 : decode cX10_seeks 164 = .ok (.goto (-130), 3) := by decide +kernel
theorem dX10_seeks_167 : decode cX10_seeks 167 = .ok (.aload_n 0, 1) := by decide +kernel
theorem dX10_seeks_168 : decode cX10_seeks 168 = .ok (.getfield 413, 3) := by decide +kernel
theorem dX10_seeks_171 : decode cX10_seeks 171 = .ok (.sipush 1000, 3) := by decide +kernel
theorem dX10_seeks_174 : decode cX10_seeks 174 = .ok (.if_icmp .ne 5, 3) := by decide +kernel
theorem dX10_seeks_177 : decode cX10_seeks 177 = .ok (.iconst 0, 1) := by decide +kernel
theorem dX10_seeks_178 : decode cX10_seeks 178 = .ok (.ireturn, 1) := by decide +kernel
theorem dX10_seeks_179 : decode cX10_seeks 179 = .ok (.iconst 0, 1) := by decide +kernel
theorem dX10_seeks_180 : decode cX10_seeks 180 = .ok (.istore 5, 2) := by decide +kernel
theorem dX10_seeks_182 : decode cX10_seeks 182 = .ok (.iload 5, 2) := by decide +kernel
theorem dX10_seeks_184 : decode cX10_seeks 184 = .ok (.aload_n 0, 1) := by decide +kernel
theorem dX10_seeks_185 : decode cX10_seeks 185 = .ok (.getfield 350, 3) := by decide +kernel
theorem dX10_seeks_188 : decode cX10_seeks 188 = .ok (.if_icmp .ge 31, 3) := by decide +kernel
theorem dX10_seeks_191 : decode cX10_seeks 191 = .ok (.aload_n 0, 1) := by decide +kernel
theorem dX10_seeks_192 : decode cX10_seeks 192 = .ok (.getfield 96, 3) := by decide +kernel
theorem dX10_seeks_195 : decode cX10_seeks 195 = .ok (.bipush 8, 2) := by decide +kernel
theorem dX10_seeks_197 : decode cX10_seeks 197 = .ok (.aload_n 0, 1) := by decide +kernel
theorem dX10_seeks_198 : decode cX10_seeks 198 = .ok (.getfield 413, 3) := by decide +kernel
theorem dX10_seeks_201 : decode cX10_seeks 201 = .ok (.imul, 1) := by decide +kernel
theorem dX10_seeks_202 : decode cX10_seeks 202 = .ok (.iload 5, 2) := by decide +kernel
theorem dX10_seeks_204 : decode cX10_seeks 204 = .ok (.iadd, 1) := by decide +kernel
theorem dX10_seeks_205 : decode cX10_seeks 205 = .ok (.aload_n 0, 1) := by decide +kernel
theorem dX10_seeks_206 : decode cX10_seeks 206 = .ok (.getfield 90, 3) := by decide +kernel
theorem dX10_seeks_209 : decode cX10_seeks 209 = .ok (.iload 5, 2) := by decide +kernel
theorem dX10_seeks_211 : decode cX10_seeks 211 = .ok (.iaload, 1) := by decide +kernel
theorem dX10_seeks_212 : decode cX10_seeks 212 = .ok (.iastore, 1) := by decide +kernel
theorem dX10_seeks_213 : decode cX10_seeks 213 = .ok (.iinc 5 1, 3) := by decide +kernel
theorem dX10_seeks_216 : decode cX10_seeks 216 = .ok (.goto (-34), 3) := by decide +kernel
theorem dX10_seeks_219 : decode cX10_seeks 219 = .ok (.aload_n 0, 1) := by decide +kernel
theorem dX10_seeks_220 : decode cX10_seeks 220 = .ok (.dup, 1) := by decide +kernel
theorem dX10_seeks_221 : decode cX10_seeks 221 = .ok (.getfield 413, 3) := by decide +kernel
theorem dX10_seeks_224 : decode cX10_seeks 224 = .ok (.iconst 1, 1) := by decide +kernel
theorem dX10_seeks_225 : decode cX10_seeks 225 = .ok (.iadd, 1) := by decide +kernel
theorem dX10_seeks_226 : decode cX10_seeks 226 = .ok (.putfield 413, 3) := by decide +kernel
theorem dX10_seeks_229 : decode cX10_seeks 229 = .ok (.aload_n 0, 1) := by decide +kernel
theorem dX10_seeks_230 : decode cX10_seeks 230 = .ok (.getfield 413, 3) := by decide +kernel
theorem dX10_seeks_233 : decode cX10_seeks 233 = .ok (.iload_n 3, 1) := by decide +kernel
theorem dX10_seeks_234 : decode cX10_seeks 234 = .ok (.if_icmp .ne (-200), 3) := by decide +kernel
theorem dX10_seeks_237 : decode cX10_seeks 237 = .ok (.iconst 1, 1) := by decide +kernel
theorem dX10_seeks_238 : decode cX10_seeks 238 = .ok (.ireturn, 1) := by decide +kernel
theorem dX10_seeks_239 : decode cX10_seeks 239 = .ok (.iconst 1, 1) := by decide +kernel
theorem dX10_seeks_240 : decode cX10_seeks 240 = .ok (.ireturn, 1) := by decide +kernel

set_option maxHeartbeats 4000000 in
set_option maxRecDepth 100000 in
theorem w_X10_copy (m H E h F : Nat) (r w : Int32) (Pl R Nb q : Nat → Int32) (post : am_Post) {n : Nat} {kd : mK} {I : mI} {J : mJ} {P : mP} (hM : kM kd P m) (hH8 : H ≤ 8) (hF : F < 1000) (hq1 : q 1 = nI H) (hq52 : q 52 = nI F) (hend : Ru yX10_seeks.cls cX10_seeks 6 (some .boolean) yX10_seeks.name 5 post 0 0 219 [some (.ref m), some (.int r), some (.int w), some (.int (nI E)), some (.int (nI h)), some (.int (nI H))] [] n kd (xM I m Pl R (nrS R Nb F H) q) J P) : ∀ (c k : Nat), k + c = H → Ru yX10_seeks.cls cX10_seeks 6 (some .boolean) yX10_seeks.name 5 post 0 0 182 [some (.ref m), some (.int r), some (.int w), some (.int (nI E)), some (.int (nI h)), some (.int (nI k))] [] n kd (xM I m Pl R (nrS R Nb F k) q) J P := by
  intro c
  induction c with
  | zero =>
    intro k hk
    have hk : k = H := by omega
    rw [hk]
    refine r_iload dX10_seeks_182 rfl ?_
    refine r_aload_n dX10_seeks_184 rfl ?_
    refine r_getI dX10_seeks_185 fl_X10_350 rfl (kM_0 hM) ?_
    rw [xM_m, hq1]
    refine r_icmp_ge (tgt := 219) dX10_seeks_188 (by decide) (fun _ => ?_) (fun hz => absurd (show _ from (by rw [nI_leI (by omega) (by omega)]; omega)) hz)
    exact hend
  | succ c ih =>
    intro k hk
    refine r_iload dX10_seeks_182 rfl ?_
    refine r_aload_n dX10_seeks_184 rfl ?_
    refine r_getI dX10_seeks_185 fl_X10_350 rfl (kM_0 hM) ?_
    rw [xM_m, hq1]
    refine r_icmp_ge (tgt := 219) dX10_seeks_188 (by decide) (fun hz => absurd hz (show ¬ _ from (by rw [nI_leI (by omega) (by omega)]; omega))) (fun _ => ?_)
    refine r_aload_n dX10_seeks_191 rfl ?_
    refine r_getR dX10_seeks_192 fl_X10_96 rfl (kM_0 hM) (pM_51 hM) ?_
    refine r_bipush (v := nI 8) dX10_seeks_195 (by decide) ?_
    refine r_aload_n dX10_seeks_197 rfl ?_
    refine r_getI dX10_seeks_198 fl_X10_413 rfl (kM_0 hM) ?_
    rw [xM_m, hq52]
    refine r_imul dX10_seeks_201 ?_
    rw [pk_mul]
    refine r_iload dX10_seeks_202 rfl ?_
    refine r_iadd dX10_seeks_204 ?_
    rw [nI_add (8 * F) k]
    refine r_aload_n dX10_seeks_205 rfl ?_
    refine r_getR dX10_seeks_206 fl_X10_90 rfl (kM_0 hM) (pM_49 hM) ?_
    refine r_iload dX10_seeks_209 rfl ?_
    refine r_iald dX10_seeks_211 (aM_49 hM) (nI_in8 8 (by omega) (by decide)) (nI_clamp (by omega)) ?_
    rw [xM_25]
    refine r_iast dX10_seeks_212 (aM_51 hM) (nI_in8 8000 (by omega) (by decide)) (nI_clamp (by omega)) ?_
    rw [xM_27, xM_u27]
    refine r_iinc (v := nI (k + 1)) dX10_seeks_213 rfl (nI_inc k) ?_
    refine r_goto (tgt := 182) dX10_seeks_216 (by decide) ?_
    exact ih (k + 1) (by omega)

theorem alT {I : mI} {m H L h : Nat} {r w : Int32} {lk : Nat → Nat} {tv : (Nat → Nat) → Nat → Bool} {N : Nat → Nat} {Pl R Nb q : Nat → Int32} (hR : ∀ j, j ≤ h → R j = nI (N j)) (hq : q 3 = I m 3) : alS (xM I m Pl R Nb q) m H L r w lk (tv N) h = TR I m H L r w lk tv N h := by
  unfold alS TR
  rw [xM_n (by omega) (by omega) (by omega) (by omega), xM_25, xM_m, hq, hR h (Nat.le_refl h), unl_congr (N := R) (N' := rN N) (fun j hj => hR j (by omega))]
theorem lkUp {I : mI} {m H : Nat} {lk : Nat → Nat} {Pl R Nb q : Nat → Int32} (hq : q 1 = I m 1) (h : lkOkR I m H lk) : lkOkR (xM I m Pl R Nb q) m H lk := by
  intro k hk
  rw [xM_n (by omega) (by omega) (by omega) (by omega), xM_m, hq]
  exact h k hk
set_option maxHeartbeats 4000000 in
set_option maxRecDepth 100000 in
theorem w_X10_seeks75 (m H M L E : Nat) (r w : Int32) (lk : Nat → Nat) (tv : (Nat → Nat) → Nat → Bool) (B0 : Nat → Int32) (f : Nat) {n : Nat} {kd : mK} {I : mI} {J : mJ} {P : mP} (hM : kM kd P m) (hH8 : H ≤ 8) (hH1 : 1 ≤ H) (hH : I m 1 = nI H) (hMo : I m 2 = nI M) (hM20 : M ≤ 20) (hL : I m 47 = nI L) (hL10 : L ≤ 10) (hE : E ≤ 1001) (hlk : lkOkR I m H lk) (hbM : ∀ h, h < 8 → nI h = I m 58 → ∃ v, v ≤ M ∧ I m 59 = nI v) (hT : ∀ (N : Nat → Nat) (k h : Nat) (Pl R Nb q : Nat → Int32), (∀ j, j ≤ h → R j = nI (N j)) → (∀ j, j ≠ 52 → j ≠ 53 → q j = I m j) → k < H → bt r k = true → awS (lk k) k = h → Ct yX10_isTrue cX10_isTrue 5 (some .boolean) 2 0 0 [.ref m, .int (nI k)] n kd (xM I m Pl R Nb q) J P (am_sc (some (.int (bz (tv N k)))) (m + 26) n kd (xM I m Pl R Nb q) J P)) (hih : ∀ {hh : Nat} {N : Nat → Nat} {t : Nat} {fs : List (Nat → Nat)} {R Pl : Nat → Int32} {x5 : Option Value} {res : Nat × List (Nat → Nat) × Bool}, sk (TR I m H L r w lk tv) (barS (I m 58) (I m 59)) H M E f hh N t fs = some res → (∀ j, j + 1 ≤ hh → R j = nI (N j)) → hh ≤ H → (∀ j, N j ≤ M) → t ≤ 20000 → fs.length < E → fs.length ≤ 1000 → (∀ j, hh ≤ j → N j = 0) → Ru yX10_seeks.cls cX10_seeks 6 (some .boolean) yX10_seeks.name 5 (xkP m H B0 (I m) res n kd I J P) 0 0 34 [some (.ref m), some (.int r), some (.int w), some (.int (nI E)), some (.int (hz hh)), x5] [] n kd (xM I m Pl R (NR H B0 fs) (qR (I m) (nI fs.length) (nI t))) J P) : ∀ {h : Nat} {N : Nat → Nat} {t : Nat} {fs : List (Nat → Nat)} {R Pl : Nat → Int32} {x5 : Option Value} {res : Nat × List (Nat → Nat) × Bool}, sk (TR I m H L r w lk tv) (barS (I m 58) (I m 59)) H M E (f + 1) (h + 1) N t fs = some res → (M ≤ N h ∨ ¬ barS (I m 58) (I m 59) h (N h + 1) = true) → (∀ j, j + 1 ≤ h + 1 → R j = nI (N j)) → h + 1 ≤ H → (∀ j, N j ≤ M) → t ≤ 20000 → fs.length < E → fs.length ≤ 1000 → (∀ j, h + 1 ≤ j → N j = 0) → Ru yX10_seeks.cls cX10_seeks 6 (some .boolean) yX10_seeks.name 5 (xkP m H B0 (I m) res n kd I J P) 0 0 75 [some (.ref m), some (.int r), some (.int w), some (.int (nI E)), some (.int (nI h)), x5] [] n kd (xM I m Pl R (NR H B0 fs) (qR (I m) (nI fs.length) (nI t))) J P := by
  intro h N t fs R Pl x5 res hs hnb hR hhH hN ht hF hF2 hzz
  have hR : ∀ j, j ≤ h → R j = nI (N j) := fun j hj => hR j (by omega)
  have hNh := hN h
  rw [sk] at hs
  by_cases hc : M ≤ N h
  · skip
    refine r_aload_n dX10_seeks_75 rfl ?_
    refine r_getR dX10_seeks_76 fl_X10_90 rfl (kM_0 hM) (pM_49 hM) ?_
    refine r_iload dX10_seeks_79 rfl ?_
    refine r_iald dX10_seeks_81 (aM_49 hM) (nI_in8 8 (by omega) (by decide)) (nI_clamp (by omega)) ?_
    rw [xM_25, hR h (by omega)]
    refine r_aload_n dX10_seeks_82 rfl ?_
    refine r_getI dX10_seeks_83 fl_X10_7 rfl (kM_0 hM) ?_
    rw [xM_m, qRn _ _ _ (by decide) (by decide), hMo]
    refine r_icmp_ne (tgt := 95) dX10_seeks_86 (by decide) (fun hz => absurd (show _ from (by rw [show N h = M by omega])) hz) (fun _ => ?_)
    refine r_iinc (v := hz h) dX10_seeks_89 rfl (hz_dec h) ?_
    refine r_goto (tgt := 34) dX10_seeks_92 (by decide) ?_
    rw [if_pos hc] at hs
    exact hih hs (fun j hj => by unfold upN; rw [if_neg (by omega)]; exact hR j (by omega)) (by omega) (upN_le hN (Nat.zero_le M)) ht hF hF2 (fun j hj => by unfold upN; split; rfl; exact hzz j (by omega))
  · rw [if_neg hc, if_neg (hnb.resolve_left hc)] at hs
    have hR1 := up_le (N h + 1) hR
    by_cases ht2 : t = 20000
    · skip
      refine r_aload_n dX10_seeks_75 rfl ?_
      refine r_getR dX10_seeks_76 fl_X10_90 rfl (kM_0 hM) (pM_49 hM) ?_
      refine r_iload dX10_seeks_79 rfl ?_
      refine r_iald dX10_seeks_81 (aM_49 hM) (nI_in8 8 (by omega) (by decide)) (nI_clamp (by omega)) ?_
      rw [xM_25, hR h (by omega)]
      refine r_aload_n dX10_seeks_82 rfl ?_
      refine r_getI dX10_seeks_83 fl_X10_7 rfl (kM_0 hM) ?_
      rw [xM_m, qRn _ _ _ (by decide) (by decide), hMo]
      refine r_icmp_ne (tgt := 95) dX10_seeks_86 (by decide) (fun _ => ?_) (fun hz => absurd hz (show ¬ _ from (by rw [nI_eq (by omega) (by omega)]; omega)))
      refine r_aload_n dX10_seeks_95 rfl ?_
      refine r_getI dX10_seeks_96 fl_X10_416 rfl (kM_0 hM) ?_
      rw [xM_m, qR53]
      refine r_sipush (v := nI 20000) dX10_seeks_99 (by decide) ?_
      refine r_icmp_ne (tgt := 107) dX10_seeks_102 (by decide) (fun hz => absurd (show _ from (by rw [nI_eq (by omega) (by omega)]; omega)) hz) (fun _ => ?_)
      refine r_iconst (v := nI 0) dX10_seeks_105 (by decide) ?_
      refine r_zret rfl dX10_seeks_106 (by first | exact Or.inl rfl | exact Or.inr rfl | assumption) ?_
      rw [if_pos ht2] at hs
      cases hs
      exact ⟨Pl, R, rfl, rfl, rfl, by rw [cutF, if_pos hF2], rfl, rfl⟩
    · rw [if_neg ht2] at hs
      cases hTv : TR I m H L r w lk tv (upN N h (N h + 1)) h with
      | false =>
        rw [hTv] at hs
        simp only [Bool.false_eq_true, if_false] at hs
        refine r_aload_n dX10_seeks_75 rfl ?_
        refine r_getR dX10_seeks_76 fl_X10_90 rfl (kM_0 hM) (pM_49 hM) ?_
        refine r_iload dX10_seeks_79 rfl ?_
        refine r_iald dX10_seeks_81 (aM_49 hM) (nI_in8 8 (by omega) (by decide)) (nI_clamp (by omega)) ?_
        rw [xM_25, hR h (by omega)]
        refine r_aload_n dX10_seeks_82 rfl ?_
        refine r_getI dX10_seeks_83 fl_X10_7 rfl (kM_0 hM) ?_
        rw [xM_m, qRn _ _ _ (by decide) (by decide), hMo]
        refine r_icmp_ne (tgt := 95) dX10_seeks_86 (by decide) (fun _ => ?_) (fun hz => absurd hz (show ¬ _ from (by rw [nI_eq (by omega) (by omega)]; omega)))
        refine r_aload_n dX10_seeks_95 rfl ?_
        refine r_getI dX10_seeks_96 fl_X10_416 rfl (kM_0 hM) ?_
        rw [xM_m, qR53]
        refine r_sipush (v := nI 20000) dX10_seeks_99 (by decide) ?_
        refine r_icmp_ne (tgt := 107) dX10_seeks_102 (by decide) (fun _ => ?_) (fun hz => absurd hz (show ¬ _ from (by rw [nI_eq (by omega) (by omega)]; omega)))
        refine r_aload_n dX10_seeks_107 rfl ?_
        refine r_getR dX10_seeks_108 fl_X10_90 rfl (kM_0 hM) (pM_49 hM) ?_
        refine r_iload dX10_seeks_111 rfl ?_
        refine r_dup2 dX10_seeks_113 rfl rfl ?_
        refine r_iald dX10_seeks_114 (aM_49 hM) (nI_in8 8 (by omega) (by decide)) (nI_clamp (by omega)) ?_
        rw [xM_25, hR h (by omega)]
        refine r_iconst (v := nI 1) dX10_seeks_115 (by decide) ?_
        refine r_iadd dX10_seeks_116 ?_
        rw [nI_add (N h) 1]
        refine r_iast dX10_seeks_117 (aM_49 hM) (nI_in8 8 (by omega) (by decide)) (nI_clamp (by omega)) ?_
        rw [xM_25, xM_u25]
        refine r_aload_n dX10_seeks_118 rfl ?_
        refine r_dup dX10_seeks_119 rfl ?_
        refine r_getI dX10_seeks_120 fl_X10_416 rfl (kM_0 hM) ?_
        rw [xM_m, qR53]
        refine r_iconst (v := nI 1) dX10_seeks_123 (by decide) ?_
        refine r_iadd dX10_seeks_124 ?_
        rw [nI_add t 1]
        refine r_putI dX10_seeks_125 fl_X10_416 rfl rfl (kM_0 hM) ?_
        rw [xM_m, xM_um, qR_53]
        refine r_aload_n dX10_seeks_128 rfl ?_
        refine r_iload dX10_seeks_129 rfl ?_
        refine r_iload_n dX10_seeks_131 rfl ?_
        refine r_iload_n dX10_seeks_132 rfl ?_
        refine r_virtS (c_X10_isAllowed m H L h r w lk (tv (upN N h (N h + 1))) hM (by omega) hH8 (by rw [xM_m, qRn _ _ _ (by decide) (by decide)]; exact hH) (by rw [xM_m, qRn _ _ _ (by decide) (by decide)]; exact hL) hL10 (lkUp (qRn _ _ _ (by decide) (by decide)) hlk) (fun k R9 hk hb9 ha9 => by rw [xM_u26]; exact hT (upN N h (N h + 1)) k h R9 (va_up R h (nI (N h + 1))) (NR H B0 fs) _ hR1 (fun j h1 h2 => qRn _ _ _ h1 h2) hk hb9 ha9)) lk_X10_422 mc_X10_isAllowed dX10_seeks_133 (kM_0 hM) (by decide) rfl rfl (Nat.le_of_ble_eq_true rfl) (fun P2 => ?_)
        rw [xM_u26, alT (N := (upN N h (N h + 1))) hR1 (qRn _ _ _ (by decide) (by decide)), hTv]
        refine r_if_ne (tgt := 142) dX10_seeks_136 (by decide) (fun hz => absurd (show _ from rfl) hz) (fun _ => ?_)
        refine r_goto (tgt := 34) dX10_seeks_139 (by decide) ?_
        exact hih (hh := h + 1) hs (fun j hj => hR1 j (by omega)) (by omega) (upN_le hN (by omega)) (by omega) hF hF2 (fun j hj => by unfold upN; rw [if_neg (by omega)]; exact hzz j (by omega))
      | true =>
        rw [hTv] at hs
        simp only [if_true] at hs
        by_cases hl : h + 1 < H
        · rw [if_pos hl] at hs
          refine r_aload_n dX10_seeks_75 rfl ?_
          refine r_getR dX10_seeks_76 fl_X10_90 rfl (kM_0 hM) (pM_49 hM) ?_
          refine r_iload dX10_seeks_79 rfl ?_
          refine r_iald dX10_seeks_81 (aM_49 hM) (nI_in8 8 (by omega) (by decide)) (nI_clamp (by omega)) ?_
          rw [xM_25, hR h (by omega)]
          refine r_aload_n dX10_seeks_82 rfl ?_
          refine r_getI dX10_seeks_83 fl_X10_7 rfl (kM_0 hM) ?_
          rw [xM_m, qRn _ _ _ (by decide) (by decide), hMo]
          refine r_icmp_ne (tgt := 95) dX10_seeks_86 (by decide) (fun _ => ?_) (fun hz => absurd hz (show ¬ _ from (by rw [nI_eq (by omega) (by omega)]; omega)))
          refine r_aload_n dX10_seeks_95 rfl ?_
          refine r_getI dX10_seeks_96 fl_X10_416 rfl (kM_0 hM) ?_
          rw [xM_m, qR53]
          refine r_sipush (v := nI 20000) dX10_seeks_99 (by decide) ?_
          refine r_icmp_ne (tgt := 107) dX10_seeks_102 (by decide) (fun _ => ?_) (fun hz => absurd hz (show ¬ _ from (by rw [nI_eq (by omega) (by omega)]; omega)))
          refine r_aload_n dX10_seeks_107 rfl ?_
          refine r_getR dX10_seeks_108 fl_X10_90 rfl (kM_0 hM) (pM_49 hM) ?_
          refine r_iload dX10_seeks_111 rfl ?_
          refine r_dup2 dX10_seeks_113 rfl rfl ?_
          refine r_iald dX10_seeks_114 (aM_49 hM) (nI_in8 8 (by omega) (by decide)) (nI_clamp (by omega)) ?_
          rw [xM_25, hR h (by omega)]
          refine r_iconst (v := nI 1) dX10_seeks_115 (by decide) ?_
          refine r_iadd dX10_seeks_116 ?_
          rw [nI_add (N h) 1]
          refine r_iast dX10_seeks_117 (aM_49 hM) (nI_in8 8 (by omega) (by decide)) (nI_clamp (by omega)) ?_
          rw [xM_25, xM_u25]
          refine r_aload_n dX10_seeks_118 rfl ?_
          refine r_dup dX10_seeks_119 rfl ?_
          refine r_getI dX10_seeks_120 fl_X10_416 rfl (kM_0 hM) ?_
          rw [xM_m, qR53]
          refine r_iconst (v := nI 1) dX10_seeks_123 (by decide) ?_
          refine r_iadd dX10_seeks_124 ?_
          rw [nI_add t 1]
          refine r_putI dX10_seeks_125 fl_X10_416 rfl rfl (kM_0 hM) ?_
          rw [xM_m, xM_um, qR_53]
          refine r_aload_n dX10_seeks_128 rfl ?_
          refine r_iload dX10_seeks_129 rfl ?_
          refine r_iload_n dX10_seeks_131 rfl ?_
          refine r_iload_n dX10_seeks_132 rfl ?_
          refine r_virtS (c_X10_isAllowed m H L h r w lk (tv (upN N h (N h + 1))) hM (by omega) hH8 (by rw [xM_m, qRn _ _ _ (by decide) (by decide)]; exact hH) (by rw [xM_m, qRn _ _ _ (by decide) (by decide)]; exact hL) hL10 (lkUp (qRn _ _ _ (by decide) (by decide)) hlk) (fun k R9 hk hb9 ha9 => by rw [xM_u26]; exact hT (upN N h (N h + 1)) k h R9 (va_up R h (nI (N h + 1))) (NR H B0 fs) _ hR1 (fun j h1 h2 => qRn _ _ _ h1 h2) hk hb9 ha9)) lk_X10_422 mc_X10_isAllowed dX10_seeks_133 (kM_0 hM) (by decide) rfl rfl (Nat.le_of_ble_eq_true rfl) (fun P2 => ?_)
          rw [xM_u26, alT (N := (upN N h (N h + 1))) hR1 (qRn _ _ _ (by decide) (by decide)), hTv]
          refine r_if_ne (tgt := 142) dX10_seeks_136 (by decide) (fun _ => ?_) (fun hz => absurd hz (show ¬ _ from (by decide)))
          refine r_iload dX10_seeks_142 rfl ?_
          refine r_aload_n dX10_seeks_144 rfl ?_
          refine r_getI dX10_seeks_145 fl_X10_350 rfl (kM_0 hM) ?_
          rw [xM_m, qRn _ _ _ (by decide) (by decide), hH]
          refine r_iconst (v := nI 1) dX10_seeks_148 (by decide) ?_
          refine r_isub dX10_seeks_149 ?_
          rw [pk_sub hH1]
          refine r_icmp_ge (tgt := 167) dX10_seeks_150 (by decide) (fun hz => absurd hz (show ¬ _ from (by rw [nI_leI (by omega) (by omega)]; omega))) (fun _ => ?_)
          refine r_iinc (v := nI (h + 1)) dX10_seeks_153 rfl (nI_inc h) ?_
          refine r_aload_n dX10_seeks_156 rfl ?_
          refine r_getR dX10_seeks_157 fl_X10_90 rfl (kM_0 hM) (pM_49 hM) ?_
          refine r_iload dX10_seeks_160 rfl ?_
          refine r_iconst (v := nI 0) dX10_seeks_162 (by decide) ?_
          refine r_iast dX10_seeks_163 (aM_49 hM) (nI_in8 8 (by omega) (by decide)) (nI_clamp (by omega)) ?_
          rw [xM_25, xM_u25]
          refine r_goto (tgt := 34) dX10_seeks_164 (by decide) ?_
          refine hih (hh := h + 2) hs (fun j hj => ?_) (by omega) (upN_le hN (by omega)) (by omega) hF hF2 (fun j hj => by unfold upN; rw [if_neg (by omega)]; exact hzz j (by omega))
          by_cases e : j = h + 1
          · rw [e, am_up_s, show (upN N h (N h + 1)) (h + 1) = 0 by unfold upN; rw [if_neg (by omega)]; exact hzz (h + 1) (by omega)]
          · rw [am_up_n _ _ e]; exact hR1 j (by omega)
        · rw [if_neg hl] at hs
          by_cases h1000 : fs.length = 1000
          · skip
            refine r_aload_n dX10_seeks_75 rfl ?_
            refine r_getR dX10_seeks_76 fl_X10_90 rfl (kM_0 hM) (pM_49 hM) ?_
            refine r_iload dX10_seeks_79 rfl ?_
            refine r_iald dX10_seeks_81 (aM_49 hM) (nI_in8 8 (by omega) (by decide)) (nI_clamp (by omega)) ?_
            rw [xM_25, hR h (by omega)]
            refine r_aload_n dX10_seeks_82 rfl ?_
            refine r_getI dX10_seeks_83 fl_X10_7 rfl (kM_0 hM) ?_
            rw [xM_m, qRn _ _ _ (by decide) (by decide), hMo]
            refine r_icmp_ne (tgt := 95) dX10_seeks_86 (by decide) (fun _ => ?_) (fun hz => absurd hz (show ¬ _ from (by rw [nI_eq (by omega) (by omega)]; omega)))
            refine r_aload_n dX10_seeks_95 rfl ?_
            refine r_getI dX10_seeks_96 fl_X10_416 rfl (kM_0 hM) ?_
            rw [xM_m, qR53]
            refine r_sipush (v := nI 20000) dX10_seeks_99 (by decide) ?_
            refine r_icmp_ne (tgt := 107) dX10_seeks_102 (by decide) (fun _ => ?_) (fun hz => absurd hz (show ¬ _ from (by rw [nI_eq (by omega) (by omega)]; omega)))
            refine r_aload_n dX10_seeks_107 rfl ?_
            refine r_getR dX10_seeks_108 fl_X10_90 rfl (kM_0 hM) (pM_49 hM) ?_
            refine r_iload dX10_seeks_111 rfl ?_
            refine r_dup2 dX10_seeks_113 rfl rfl ?_
            refine r_iald dX10_seeks_114 (aM_49 hM) (nI_in8 8 (by omega) (by decide)) (nI_clamp (by omega)) ?_
            rw [xM_25, hR h (by omega)]
            refine r_iconst (v := nI 1) dX10_seeks_115 (by decide) ?_
            refine r_iadd dX10_seeks_116 ?_
            rw [nI_add (N h) 1]
            refine r_iast dX10_seeks_117 (aM_49 hM) (nI_in8 8 (by omega) (by decide)) (nI_clamp (by omega)) ?_
            rw [xM_25, xM_u25]
            refine r_aload_n dX10_seeks_118 rfl ?_
            refine r_dup dX10_seeks_119 rfl ?_
            refine r_getI dX10_seeks_120 fl_X10_416 rfl (kM_0 hM) ?_
            rw [xM_m, qR53]
            refine r_iconst (v := nI 1) dX10_seeks_123 (by decide) ?_
            refine r_iadd dX10_seeks_124 ?_
            rw [nI_add t 1]
            refine r_putI dX10_seeks_125 fl_X10_416 rfl rfl (kM_0 hM) ?_
            rw [xM_m, xM_um, qR_53]
            refine r_aload_n dX10_seeks_128 rfl ?_
            refine r_iload dX10_seeks_129 rfl ?_
            refine r_iload_n dX10_seeks_131 rfl ?_
            refine r_iload_n dX10_seeks_132 rfl ?_
            refine r_virtS (c_X10_isAllowed m H L h r w lk (tv (upN N h (N h + 1))) hM (by omega) hH8 (by rw [xM_m, qRn _ _ _ (by decide) (by decide)]; exact hH) (by rw [xM_m, qRn _ _ _ (by decide) (by decide)]; exact hL) hL10 (lkUp (qRn _ _ _ (by decide) (by decide)) hlk) (fun k R9 hk hb9 ha9 => by rw [xM_u26]; exact hT (upN N h (N h + 1)) k h R9 (va_up R h (nI (N h + 1))) (NR H B0 fs) _ hR1 (fun j h1 h2 => qRn _ _ _ h1 h2) hk hb9 ha9)) lk_X10_422 mc_X10_isAllowed dX10_seeks_133 (kM_0 hM) (by decide) rfl rfl (Nat.le_of_ble_eq_true rfl) (fun P2 => ?_)
            rw [xM_u26, alT (N := (upN N h (N h + 1))) hR1 (qRn _ _ _ (by decide) (by decide)), hTv]
            refine r_if_ne (tgt := 142) dX10_seeks_136 (by decide) (fun _ => ?_) (fun hz => absurd hz (show ¬ _ from (by decide)))
            refine r_iload dX10_seeks_142 rfl ?_
            refine r_aload_n dX10_seeks_144 rfl ?_
            refine r_getI dX10_seeks_145 fl_X10_350 rfl (kM_0 hM) ?_
            rw [xM_m, qRn _ _ _ (by decide) (by decide), hH]
            refine r_iconst (v := nI 1) dX10_seeks_148 (by decide) ?_
            refine r_isub dX10_seeks_149 ?_
            rw [pk_sub hH1]
            refine r_icmp_ge (tgt := 167) dX10_seeks_150 (by decide) (fun _ => ?_) (fun hz => absurd (show _ from (by rw [nI_leI (by omega) (by omega)]; omega)) hz)
            refine r_aload_n dX10_seeks_167 rfl ?_
            refine r_getI dX10_seeks_168 fl_X10_413 rfl (kM_0 hM) ?_
            rw [xM_m, qR52]
            refine r_sipush (v := nI 1000) dX10_seeks_171 (by decide) ?_
            refine r_icmp_ne (tgt := 179) dX10_seeks_174 (by decide) (fun hz => absurd (show _ from (by rw [h1000])) hz) (fun _ => ?_)
            refine r_iconst (v := nI 0) dX10_seeks_177 (by decide) ?_
            refine r_zret rfl dX10_seeks_178 (by first | exact Or.inl rfl | exact Or.inr rfl | assumption) ?_
            rw [if_pos (by omega : fs.length + 1 = E)] at hs
            cases hs
            exact ⟨P2, (va_up R h (nI (N h + 1))), by simp [h1000, bz], rfl, rfl, by simp [cutF, h1000], rfl, rfl⟩
          · by_cases hE2 : fs.length + 1 = E
            · skip
              refine r_aload_n dX10_seeks_75 rfl ?_
              refine r_getR dX10_seeks_76 fl_X10_90 rfl (kM_0 hM) (pM_49 hM) ?_
              refine r_iload dX10_seeks_79 rfl ?_
              refine r_iald dX10_seeks_81 (aM_49 hM) (nI_in8 8 (by omega) (by decide)) (nI_clamp (by omega)) ?_
              rw [xM_25, hR h (by omega)]
              refine r_aload_n dX10_seeks_82 rfl ?_
              refine r_getI dX10_seeks_83 fl_X10_7 rfl (kM_0 hM) ?_
              rw [xM_m, qRn _ _ _ (by decide) (by decide), hMo]
              refine r_icmp_ne (tgt := 95) dX10_seeks_86 (by decide) (fun _ => ?_) (fun hz => absurd hz (show ¬ _ from (by rw [nI_eq (by omega) (by omega)]; omega)))
              refine r_aload_n dX10_seeks_95 rfl ?_
              refine r_getI dX10_seeks_96 fl_X10_416 rfl (kM_0 hM) ?_
              rw [xM_m, qR53]
              refine r_sipush (v := nI 20000) dX10_seeks_99 (by decide) ?_
              refine r_icmp_ne (tgt := 107) dX10_seeks_102 (by decide) (fun _ => ?_) (fun hz => absurd hz (show ¬ _ from (by rw [nI_eq (by omega) (by omega)]; omega)))
              refine r_aload_n dX10_seeks_107 rfl ?_
              refine r_getR dX10_seeks_108 fl_X10_90 rfl (kM_0 hM) (pM_49 hM) ?_
              refine r_iload dX10_seeks_111 rfl ?_
              refine r_dup2 dX10_seeks_113 rfl rfl ?_
              refine r_iald dX10_seeks_114 (aM_49 hM) (nI_in8 8 (by omega) (by decide)) (nI_clamp (by omega)) ?_
              rw [xM_25, hR h (by omega)]
              refine r_iconst (v := nI 1) dX10_seeks_115 (by decide) ?_
              refine r_iadd dX10_seeks_116 ?_
              rw [nI_add (N h) 1]
              refine r_iast dX10_seeks_117 (aM_49 hM) (nI_in8 8 (by omega) (by decide)) (nI_clamp (by omega)) ?_
              rw [xM_25, xM_u25]
              refine r_aload_n dX10_seeks_118 rfl ?_
              refine r_dup dX10_seeks_119 rfl ?_
              refine r_getI dX10_seeks_120 fl_X10_416 rfl (kM_0 hM) ?_
              rw [xM_m, qR53]
              refine r_iconst (v := nI 1) dX10_seeks_123 (by decide) ?_
              refine r_iadd dX10_seeks_124 ?_
              rw [nI_add t 1]
              refine r_putI dX10_seeks_125 fl_X10_416 rfl rfl (kM_0 hM) ?_
              rw [xM_m, xM_um, qR_53]
              refine r_aload_n dX10_seeks_128 rfl ?_
              refine r_iload dX10_seeks_129 rfl ?_
              refine r_iload_n dX10_seeks_131 rfl ?_
              refine r_iload_n dX10_seeks_132 rfl ?_
              refine r_virtS (c_X10_isAllowed m H L h r w lk (tv (upN N h (N h + 1))) hM (by omega) hH8 (by rw [xM_m, qRn _ _ _ (by decide) (by decide)]; exact hH) (by rw [xM_m, qRn _ _ _ (by decide) (by decide)]; exact hL) hL10 (lkUp (qRn _ _ _ (by decide) (by decide)) hlk) (fun k R9 hk hb9 ha9 => by rw [xM_u26]; exact hT (upN N h (N h + 1)) k h R9 (va_up R h (nI (N h + 1))) (NR H B0 fs) _ hR1 (fun j h1 h2 => qRn _ _ _ h1 h2) hk hb9 ha9)) lk_X10_422 mc_X10_isAllowed dX10_seeks_133 (kM_0 hM) (by decide) rfl rfl (Nat.le_of_ble_eq_true rfl) (fun P2 => ?_)
              rw [xM_u26, alT (N := (upN N h (N h + 1))) hR1 (qRn _ _ _ (by decide) (by decide)), hTv]
              refine r_if_ne (tgt := 142) dX10_seeks_136 (by decide) (fun _ => ?_) (fun hz => absurd hz (show ¬ _ from (by decide)))
              refine r_iload dX10_seeks_142 rfl ?_
              refine r_aload_n dX10_seeks_144 rfl ?_
              refine r_getI dX10_seeks_145 fl_X10_350 rfl (kM_0 hM) ?_
              rw [xM_m, qRn _ _ _ (by decide) (by decide), hH]
              refine r_iconst (v := nI 1) dX10_seeks_148 (by decide) ?_
              refine r_isub dX10_seeks_149 ?_
              rw [pk_sub hH1]
              refine r_icmp_ge (tgt := 167) dX10_seeks_150 (by decide) (fun _ => ?_) (fun hz => absurd (show _ from (by rw [nI_leI (by omega) (by omega)]; omega)) hz)
              refine r_aload_n dX10_seeks_167 rfl ?_
              refine r_getI dX10_seeks_168 fl_X10_413 rfl (kM_0 hM) ?_
              rw [xM_m, qR52]
              refine r_sipush (v := nI 1000) dX10_seeks_171 (by decide) ?_
              refine r_icmp_ne (tgt := 179) dX10_seeks_174 (by decide) (fun _ => ?_) (fun hz => absurd hz (show ¬ _ from (by rw [nI_eq (by omega) (by omega)]; omega)))
              refine r_iconst (v := nI 0) dX10_seeks_179 (by decide) ?_
              refine r_istore dX10_seeks_180 (by decide) ?_
              have hnr : nrS (va_up R h (nI (N h + 1))) (NR H B0 fs) fs.length H = NR H B0 ((upN N h (N h + 1)) :: fs) := nrS_congr (fun j hj => hR1 j (by omega))
              refine w_X10_copy m H E h fs.length r w P2 (va_up R h (nI (N h + 1))) (NR H B0 fs) _ _ hM hH8 (by omega) (by rw [qRn _ _ _ (by decide) (by decide)]; exact hH) (qR52 _ _ _) ?_ H 0 (by omega)
              rw [hnr]
              refine r_aload_n dX10_seeks_219 rfl ?_
              refine r_dup dX10_seeks_220 rfl ?_
              refine r_getI dX10_seeks_221 fl_X10_413 rfl (kM_0 hM) ?_
              rw [xM_m, qR52]
              refine r_iconst (v := nI 1) dX10_seeks_224 (by decide) ?_
              refine r_iadd dX10_seeks_225 ?_
              rw [nI_add fs.length 1]
              refine r_putI dX10_seeks_226 fl_X10_413 rfl rfl (kM_0 hM) ?_
              rw [xM_m, xM_um, qR_52]
              refine r_aload_n dX10_seeks_229 rfl ?_
              refine r_getI dX10_seeks_230 fl_X10_413 rfl (kM_0 hM) ?_
              rw [xM_m, qR52]
              refine r_iload_n dX10_seeks_233 rfl ?_
              refine r_icmp_ne (tgt := 34) dX10_seeks_234 (by decide) (fun hz => absurd (show _ from (by rw [hE2])) hz) (fun _ => ?_)
              refine r_iconst (v := nI 1) dX10_seeks_237 (by decide) ?_
              refine r_zret rfl dX10_seeks_238 (by first | exact Or.inl rfl | exact Or.inr rfl | assumption) ?_
              rw [if_pos hE2] at hs
              cases hs
              exact ⟨P2, (va_up R h (nI (N h + 1))), by simp [bz]; omega, rfl, rfl, by rw [cutF, if_pos (by simp; omega)]; rfl, rfl, rfl⟩
            · skip
              refine r_aload_n dX10_seeks_75 rfl ?_
              refine r_getR dX10_seeks_76 fl_X10_90 rfl (kM_0 hM) (pM_49 hM) ?_
              refine r_iload dX10_seeks_79 rfl ?_
              refine r_iald dX10_seeks_81 (aM_49 hM) (nI_in8 8 (by omega) (by decide)) (nI_clamp (by omega)) ?_
              rw [xM_25, hR h (by omega)]
              refine r_aload_n dX10_seeks_82 rfl ?_
              refine r_getI dX10_seeks_83 fl_X10_7 rfl (kM_0 hM) ?_
              rw [xM_m, qRn _ _ _ (by decide) (by decide), hMo]
              refine r_icmp_ne (tgt := 95) dX10_seeks_86 (by decide) (fun _ => ?_) (fun hz => absurd hz (show ¬ _ from (by rw [nI_eq (by omega) (by omega)]; omega)))
              refine r_aload_n dX10_seeks_95 rfl ?_
              refine r_getI dX10_seeks_96 fl_X10_416 rfl (kM_0 hM) ?_
              rw [xM_m, qR53]
              refine r_sipush (v := nI 20000) dX10_seeks_99 (by decide) ?_
              refine r_icmp_ne (tgt := 107) dX10_seeks_102 (by decide) (fun _ => ?_) (fun hz => absurd hz (show ¬ _ from (by rw [nI_eq (by omega) (by omega)]; omega)))
              refine r_aload_n dX10_seeks_107 rfl ?_
              refine r_getR dX10_seeks_108 fl_X10_90 rfl (kM_0 hM) (pM_49 hM) ?_
              refine r_iload dX10_seeks_111 rfl ?_
              refine r_dup2 dX10_seeks_113 rfl rfl ?_
              refine r_iald dX10_seeks_114 (aM_49 hM) (nI_in8 8 (by omega) (by decide)) (nI_clamp (by omega)) ?_
              rw [xM_25, hR h (by omega)]
              refine r_iconst (v := nI 1) dX10_seeks_115 (by decide) ?_
              refine r_iadd dX10_seeks_116 ?_
              rw [nI_add (N h) 1]
              refine r_iast dX10_seeks_117 (aM_49 hM) (nI_in8 8 (by omega) (by decide)) (nI_clamp (by omega)) ?_
              rw [xM_25, xM_u25]
              refine r_aload_n dX10_seeks_118 rfl ?_
              refine r_dup dX10_seeks_119 rfl ?_
              refine r_getI dX10_seeks_120 fl_X10_416 rfl (kM_0 hM) ?_
              rw [xM_m, qR53]
              refine r_iconst (v := nI 1) dX10_seeks_123 (by decide) ?_
              refine r_iadd dX10_seeks_124 ?_
              rw [nI_add t 1]
              refine r_putI dX10_seeks_125 fl_X10_416 rfl rfl (kM_0 hM) ?_
              rw [xM_m, xM_um, qR_53]
              refine r_aload_n dX10_seeks_128 rfl ?_
              refine r_iload dX10_seeks_129 rfl ?_
              refine r_iload_n dX10_seeks_131 rfl ?_
              refine r_iload_n dX10_seeks_132 rfl ?_
              refine r_virtS (c_X10_isAllowed m H L h r w lk (tv (upN N h (N h + 1))) hM (by omega) hH8 (by rw [xM_m, qRn _ _ _ (by decide) (by decide)]; exact hH) (by rw [xM_m, qRn _ _ _ (by decide) (by decide)]; exact hL) hL10 (lkUp (qRn _ _ _ (by decide) (by decide)) hlk) (fun k R9 hk hb9 ha9 => by rw [xM_u26]; exact hT (upN N h (N h + 1)) k h R9 (va_up R h (nI (N h + 1))) (NR H B0 fs) _ hR1 (fun j h1 h2 => qRn _ _ _ h1 h2) hk hb9 ha9)) lk_X10_422 mc_X10_isAllowed dX10_seeks_133 (kM_0 hM) (by decide) rfl rfl (Nat.le_of_ble_eq_true rfl) (fun P2 => ?_)
              rw [xM_u26, alT (N := (upN N h (N h + 1))) hR1 (qRn _ _ _ (by decide) (by decide)), hTv]
              refine r_if_ne (tgt := 142) dX10_seeks_136 (by decide) (fun _ => ?_) (fun hz => absurd hz (show ¬ _ from (by decide)))
              refine r_iload dX10_seeks_142 rfl ?_
              refine r_aload_n dX10_seeks_144 rfl ?_
              refine r_getI dX10_seeks_145 fl_X10_350 rfl (kM_0 hM) ?_
              rw [xM_m, qRn _ _ _ (by decide) (by decide), hH]
              refine r_iconst (v := nI 1) dX10_seeks_148 (by decide) ?_
              refine r_isub dX10_seeks_149 ?_
              rw [pk_sub hH1]
              refine r_icmp_ge (tgt := 167) dX10_seeks_150 (by decide) (fun _ => ?_) (fun hz => absurd (show _ from (by rw [nI_leI (by omega) (by omega)]; omega)) hz)
              refine r_aload_n dX10_seeks_167 rfl ?_
              refine r_getI dX10_seeks_168 fl_X10_413 rfl (kM_0 hM) ?_
              rw [xM_m, qR52]
              refine r_sipush (v := nI 1000) dX10_seeks_171 (by decide) ?_
              refine r_icmp_ne (tgt := 179) dX10_seeks_174 (by decide) (fun _ => ?_) (fun hz => absurd hz (show ¬ _ from (by rw [nI_eq (by omega) (by omega)]; omega)))
              refine r_iconst (v := nI 0) dX10_seeks_179 (by decide) ?_
              refine r_istore dX10_seeks_180 (by decide) ?_
              have hnr : nrS (va_up R h (nI (N h + 1))) (NR H B0 fs) fs.length H = NR H B0 ((upN N h (N h + 1)) :: fs) := nrS_congr (fun j hj => hR1 j (by omega))
              refine w_X10_copy m H E h fs.length r w P2 (va_up R h (nI (N h + 1))) (NR H B0 fs) _ _ hM hH8 (by omega) (by rw [qRn _ _ _ (by decide) (by decide)]; exact hH) (qR52 _ _ _) ?_ H 0 (by omega)
              rw [hnr]
              refine r_aload_n dX10_seeks_219 rfl ?_
              refine r_dup dX10_seeks_220 rfl ?_
              refine r_getI dX10_seeks_221 fl_X10_413 rfl (kM_0 hM) ?_
              rw [xM_m, qR52]
              refine r_iconst (v := nI 1) dX10_seeks_224 (by decide) ?_
              refine r_iadd dX10_seeks_225 ?_
              rw [nI_add fs.length 1]
              refine r_putI dX10_seeks_226 fl_X10_413 rfl rfl (kM_0 hM) ?_
              rw [xM_m, xM_um, qR_52]
              refine r_aload_n dX10_seeks_229 rfl ?_
              refine r_getI dX10_seeks_230 fl_X10_413 rfl (kM_0 hM) ?_
              rw [xM_m, qR52]
              refine r_iload_n dX10_seeks_233 rfl ?_
              refine r_icmp_ne (tgt := 34) dX10_seeks_234 (by decide) (fun _ => ?_) (fun hz => absurd hz (show ¬ _ from (by rw [nI_eq (by omega) (by omega)]; omega)))
              rw [if_neg hE2] at hs
              exact hih (hh := h + 1) (fs := (upN N h (N h + 1)) :: fs) hs (fun j hj => hR1 j (by omega)) (by omega) (upN_le hN (by omega)) (by omega) (by simp; omega) (by simp; omega) (fun j hj => by unfold upN; rw [if_neg (by omega)]; exact hzz j (by omega))

set_option maxHeartbeats 4000000 in
set_option maxRecDepth 100000 in
theorem w_X10_seeks (m H M L E : Nat) (r w : Int32) (lk : Nat → Nat) (tv : (Nat → Nat) → Nat → Bool) (B0 : Nat → Int32) {n : Nat} {kd : mK} {I : mI} {J : mJ} {P : mP} (hM : kM kd P m) (hH8 : H ≤ 8) (hH1 : 1 ≤ H) (hH : I m 1 = nI H) (hMo : I m 2 = nI M) (hM20 : M ≤ 20) (hL : I m 47 = nI L) (hL10 : L ≤ 10) (hE : E ≤ 1001) (hlk : lkOkR I m H lk) (hbM : ∀ h, h < 8 → nI h = I m 58 → ∃ v, v ≤ M ∧ I m 59 = nI v) (hT : ∀ (N : Nat → Nat) (k h : Nat) (Pl R Nb q : Nat → Int32), (∀ j, j ≤ h → R j = nI (N j)) → (∀ j, j ≠ 52 → j ≠ 53 → q j = I m j) → k < H → bt r k = true → awS (lk k) k = h → Ct yX10_isTrue cX10_isTrue 5 (some .boolean) 2 0 0 [.ref m, .int (nI k)] n kd (xM I m Pl R Nb q) J P (am_sc (some (.int (bz (tv N k)))) (m + 26) n kd (xM I m Pl R Nb q) J P)) : ∀ (F f : Nat), f ≤ F → ∀ {hh : Nat} {N : Nat → Nat} {t : Nat} {fs : List (Nat → Nat)} {R Pl : Nat → Int32} {x5 : Option Value} {res : Nat × List (Nat → Nat) × Bool}, sk (TR I m H L r w lk tv) (barS (I m 58) (I m 59)) H M E f hh N t fs = some res → (∀ j, j + 1 ≤ hh → R j = nI (N j)) → hh ≤ H → (∀ j, N j ≤ M) → t ≤ 20000 → fs.length < E → fs.length ≤ 1000 → (∀ j, hh ≤ j → N j = 0) → Ru yX10_seeks.cls cX10_seeks 6 (some .boolean) yX10_seeks.name 5 (xkP m H B0 (I m) res n kd I J P) 0 0 34 [some (.ref m), some (.int r), some (.int w), some (.int (nI E)), some (.int (hz hh)), x5] [] n kd (xM I m Pl R (NR H B0 fs) (qR (I m) (nI fs.length) (nI t))) J P := by
  intro F
  induction F with
  | zero =>
    intro f hf hh N t fs R Pl x5 res hs
    rw [show f = 0 by omega, sk] at hs
    cases hs
  | succ F ih =>
    intro f hf
    match f, hf with
    | 0, _ =>
      intro hh N t fs R Pl x5 res hs
      rw [sk] at hs
      cases hs
    | f0 + 1, hf =>
      intro hh N t fs R Pl x5 res hs hR hhH hN ht hF hF2 hzz
      cases hh with
      | zero =>
        rw [sk] at hs
        cases hs
        refine r_iload dX10_seeks_34 rfl ?_
        refine r_if_lt (tgt := 239) dX10_seeks_36 (by decide) (fun _ => ?_) (fun hz => absurd (show _ from (by decide)) hz)
        refine r_iconst (v := nI 1) dX10_seeks_239 (by decide) ?_
        refine r_zret rfl dX10_seeks_240 (by first | exact Or.inl rfl | exact Or.inr rfl | assumption) ?_
        exact ⟨Pl, R, by simp [hF2, bz], rfl, rfl, by rw [cutF, if_pos hF2], rfl, rfl⟩
      | succ h =>
        rw [show hz (h + 1) = nI h from rfl]
        have hNh := hN h
        by_cases hb : (nI h = I m 58 ∧ nI (N h + 1) = I m 59)
        · obtain ⟨v, hv1, hv2⟩ := hbM h (by omega) hb.1
          have hv3 : N h + 1 = v := (nI_eq (by omega) (by omega)).mp (hb.2.trans hv2)
          rw [sk, if_neg (by omega : ¬ M ≤ N h), if_pos (show barS (I m 58) (I m 59) h (N h + 1) = true by unfold barS; rw [decide_eq_true hb.1, decide_eq_true hb.2]; rfl)] at hs
          match f0, hs, hf with
          | 0, hs, _ => rw [sk] at hs; cases hs
          | f1 + 1, hs, hf =>
          have hnb : ¬ barS (I m 58) (I m 59) h (upN N h (N h + 1) h + 1) = true := by
            unfold barS
            intro q
            simp only [Bool.and_eq_true, decide_eq_true_eq] at q
            have q2 := q.2
            rw [upN_s, hv2, nI_eq (by omega) (by omega)] at q2
            omega
          refine r_iload dX10_seeks_34 rfl ?_
          refine r_if_lt (tgt := 239) dX10_seeks_36 (by decide) (fun hz => absurd hz (show ¬ _ from (z_nlt (by omega)))) (fun _ => ?_)
          refine r_iload dX10_seeks_39 rfl ?_
          refine r_aload_n dX10_seeks_41 rfl ?_
          refine r_getI dX10_seeks_42 fl_X10_102 rfl (kM_0 hM) ?_
          rw [xM_m, qRn _ _ _ (by decide) (by decide)]
          refine r_icmp_ne (tgt := 75) dX10_seeks_45 (by decide) (fun hz => absurd (show _ from hb.1) hz) (fun _ => ?_)
          refine r_aload_n dX10_seeks_48 rfl ?_
          refine r_getR dX10_seeks_49 fl_X10_90 rfl (kM_0 hM) (pM_49 hM) ?_
          refine r_iload dX10_seeks_52 rfl ?_
          refine r_iald dX10_seeks_54 (aM_49 hM) (nI_in8 8 (by omega) (by decide)) (nI_clamp (by omega)) ?_
          rw [xM_25, hR h (by omega)]
          refine r_iconst (v := nI 1) dX10_seeks_55 (by decide) ?_
          refine r_iadd dX10_seeks_56 ?_
          rw [nI_add (N h) 1]
          refine r_aload_n dX10_seeks_57 rfl ?_
          refine r_getI dX10_seeks_58 fl_X10_419 rfl (kM_0 hM) ?_
          rw [xM_m, qRn _ _ _ (by decide) (by decide)]
          refine r_icmp_ne (tgt := 75) dX10_seeks_61 (by decide) (fun hz => absurd (show _ from hb.2) hz) (fun _ => ?_)
          refine r_aload_n dX10_seeks_64 rfl ?_
          refine r_getR dX10_seeks_65 fl_X10_90 rfl (kM_0 hM) (pM_49 hM) ?_
          refine r_iload dX10_seeks_68 rfl ?_
          refine r_dup2 dX10_seeks_70 rfl rfl ?_
          refine r_iald dX10_seeks_71 (aM_49 hM) (nI_in8 8 (by omega) (by decide)) (nI_clamp (by omega)) ?_
          rw [xM_25, hR h (by omega)]
          refine r_iconst (v := nI 1) dX10_seeks_72 (by decide) ?_
          refine r_iadd dX10_seeks_73 ?_
          rw [nI_add (N h) 1]
          refine r_iast dX10_seeks_74 (aM_49 hM) (nI_in8 8 (by omega) (by decide)) (nI_clamp (by omega)) ?_
          rw [xM_25, xM_u25]
          exact w_X10_seeks75 m H M L E r w lk tv B0 f1 hM hH8 hH1 hH hMo hM20 hL hL10 hE hlk hbM hT (ih f1 (by omega)) (N := (upN N h (N h + 1))) (R := (va_up R h (nI (N h + 1)))) hs (Or.inr hnb) (fun j hj => up_le (N h + 1) (fun j hj => hR j (by omega)) j (by omega)) hhH (upN_le hN (by omega)) ht hF hF2 (fun j hj => by unfold upN; rw [if_neg (by omega)]; exact hzz j (by omega))
        · have hnb : ¬ barS (I m 58) (I m 59) h (N h + 1) = true := by
            unfold barS
            intro q
            simp only [Bool.and_eq_true, decide_eq_true_eq] at q
            exact hb q
          by_cases hb1 : nI h = I m 58
          · skip
            refine r_iload dX10_seeks_34 rfl ?_
            refine r_if_lt (tgt := 239) dX10_seeks_36 (by decide) (fun hz => absurd hz (show ¬ _ from (z_nlt (by omega)))) (fun _ => ?_)
            refine r_iload dX10_seeks_39 rfl ?_
            refine r_aload_n dX10_seeks_41 rfl ?_
            refine r_getI dX10_seeks_42 fl_X10_102 rfl (kM_0 hM) ?_
            rw [xM_m, qRn _ _ _ (by decide) (by decide)]
            refine r_icmp_ne (tgt := 75) dX10_seeks_45 (by decide) (fun hz => absurd (show _ from hb1) hz) (fun _ => ?_)
            refine r_aload_n dX10_seeks_48 rfl ?_
            refine r_getR dX10_seeks_49 fl_X10_90 rfl (kM_0 hM) (pM_49 hM) ?_
            refine r_iload dX10_seeks_52 rfl ?_
            refine r_iald dX10_seeks_54 (aM_49 hM) (nI_in8 8 (by omega) (by decide)) (nI_clamp (by omega)) ?_
            rw [xM_25, hR h (by omega)]
            refine r_iconst (v := nI 1) dX10_seeks_55 (by decide) ?_
            refine r_iadd dX10_seeks_56 ?_
            rw [nI_add (N h) 1]
            refine r_aload_n dX10_seeks_57 rfl ?_
            refine r_getI dX10_seeks_58 fl_X10_419 rfl (kM_0 hM) ?_
            rw [xM_m, qRn _ _ _ (by decide) (by decide)]
            refine r_icmp_ne (tgt := 75) dX10_seeks_61 (by decide) (fun _ => ?_) (fun hz => absurd hz (show ¬ _ from (fun q => hb ⟨hb1, q⟩)))
            exact w_X10_seeks75 m H M L E r w lk tv B0 f0 hM hH8 hH1 hH hMo hM20 hL hL10 hE hlk hbM hT (ih f0 (by omega)) (N := N) (R := R) hs (Or.inr hnb) (fun j hj => hR j hj) hhH hN ht hF hF2 hzz
          · skip
            refine r_iload dX10_seeks_34 rfl ?_
            refine r_if_lt (tgt := 239) dX10_seeks_36 (by decide) (fun hz => absurd hz (show ¬ _ from (z_nlt (by omega)))) (fun _ => ?_)
            refine r_iload dX10_seeks_39 rfl ?_
            refine r_aload_n dX10_seeks_41 rfl ?_
            refine r_getI dX10_seeks_42 fl_X10_102 rfl (kM_0 hM) ?_
            rw [xM_m, qRn _ _ _ (by decide) (by decide)]
            refine r_icmp_ne (tgt := 75) dX10_seeks_45 (by decide) (fun _ => ?_) (fun hz => absurd hz (show ¬ _ from hb1))
            exact w_X10_seeks75 m H M L E r w lk tv B0 f0 hM hH8 hH1 hH hMo hM20 hL hL10 hE hlk hbM hT (ih f0 (by omega)) (N := N) (R := R) hs (Or.inr hnb) (fun j hj => hR j hj) hhH hN ht hF hF2 hzz

set_option maxHeartbeats 4000000 in
set_option maxRecDepth 100000 in
theorem c_X10_seeks (m H M L E : Nat) (r w : Int32) (lk : Nat → Nat) (tv : (Nat → Nat) → Nat → Bool) (res : Nat × List (Nat → Nat) × Bool) {n : Nat} {kd : mK} {I : mI} {J : mJ} {P : mP} (hM : kM kd P m) (hH8 : H ≤ 8) (hH : I m 1 = nI H) (hMo : I m 2 = nI M) (hM20 : M ≤ 20) (hL : I m 47 = nI L) (hL10 : L ≤ 10) (hE : E ≤ 1001) (hlk : lkOkR I m H lk) (hbM : ∀ h, h < 8 → nI h = I m 58 → ∃ v, v ≤ M ∧ I m 59 = nI v) (hT : ∀ (N : Nat → Nat) (k h : Nat) (Pl R Nb q : Nat → Int32), (∀ j, j ≤ h → R j = nI (N j)) → (∀ j, j ≠ 52 → j ≠ 53 → q j = I m j) → k < H → bt r k = true → awS (lk k) k = h → Ct yX10_isTrue cX10_isTrue 5 (some .boolean) 2 0 0 [.ref m, .int (nI k)] n kd (xM I m Pl R Nb q) J P (am_sc (some (.int (bz (tv N k)))) (m + 26) n kd (xM I m Pl R Nb q) J P)) (hE1 : 1 ≤ E) (hsk : skTop (TR I m H L r w lk tv) (barS (I m 58) (I m 59)) H M E = some res) : Ct yX10_seeks cX10_seeks 6 (some .boolean) 5 0 0 [.ref m, .int r, .int w, .int (nI E)] n kd I J P (xkP m H (I (m + 27)) (I m) res n kd I J P) := by
  have hmem0 : va_up I m (qR (I m) (nI 0) (nI 0)) = xM I m (I (m + 26)) (I (m + 25)) (I (m + 27)) (qR (I m) (nI 0) (nI 0)) := by
    unfold xM
    rw [am_up_id, am_up_id, am_up_id]
  refine ct_of 2 (by decide +kernel) (Nat.le_of_ble_eq_true rfl) rfl ?_
  by_cases hz0 : H = 0
  · skip
    refine r_aload_n dX10_seeks_0 rfl ?_
    refine r_iconst (v := nI 0) dX10_seeks_1 (by decide) ?_
    refine r_putI dX10_seeks_2 fl_X10_413 rfl rfl (kM_0 hM) ?_
    refine r_aload_n dX10_seeks_5 rfl ?_
    refine r_iconst (v := nI 0) dX10_seeks_6 (by decide) ?_
    refine r_putI dX10_seeks_7 fl_X10_416 rfl rfl (kM_0 hM) ?_
    rw [am_up_s I, am_up_up I, show va_up (va_up (I m) 52 (nI 0)) 53 (nI 0) = qR (I m) (nI 0) (nI 0) from rfl, hmem0]
    refine r_aload_n dX10_seeks_10 rfl ?_
    refine r_getI dX10_seeks_11 fl_X10_350 rfl (kM_0 hM) ?_
    rw [xM_m, qRn _ _ _ (by decide) (by decide), hH]
    refine r_if_ne (tgt := 24) dX10_seeks_14 (by decide) (fun hz => absurd (show _ from (by rw [hz0]; rfl)) hz) (fun _ => ?_)
    refine r_aload_n dX10_seeks_17 rfl ?_
    refine r_iconst (v := nI 1) dX10_seeks_18 (by decide) ?_
    refine r_putI dX10_seeks_19 fl_X10_413 rfl rfl (kM_0 hM) ?_
    rw [xM_m, xM_um, qR_52]
    refine r_iconst (v := nI 1) dX10_seeks_22 (by decide) ?_
    refine r_zret rfl dX10_seeks_23 (by first | exact Or.inl rfl | exact Or.inr rfl | assumption) ?_
    have hsk2 := hsk
    rw [skTop, if_pos hz0] at hsk2
    cases hsk2
    subst hz0
    exact ⟨I (m + 26), I (m + 25), rfl, rfl, rfl, rfl, rfl, rfl⟩
  · skip
    refine r_aload_n dX10_seeks_0 rfl ?_
    refine r_iconst (v := nI 0) dX10_seeks_1 (by decide) ?_
    refine r_putI dX10_seeks_2 fl_X10_413 rfl rfl (kM_0 hM) ?_
    refine r_aload_n dX10_seeks_5 rfl ?_
    refine r_iconst (v := nI 0) dX10_seeks_6 (by decide) ?_
    refine r_putI dX10_seeks_7 fl_X10_416 rfl rfl (kM_0 hM) ?_
    rw [am_up_s I, am_up_up I, show va_up (va_up (I m) 52 (nI 0)) 53 (nI 0) = qR (I m) (nI 0) (nI 0) from rfl, hmem0]
    refine r_aload_n dX10_seeks_10 rfl ?_
    refine r_getI dX10_seeks_11 fl_X10_350 rfl (kM_0 hM) ?_
    rw [xM_m, qRn _ _ _ (by decide) (by decide), hH]
    refine r_if_ne (tgt := 24) dX10_seeks_14 (by decide) (fun _ => ?_) (fun hz => absurd hz (show ¬ _ from (by rw [z_eq (by omega)]; omega)))
    refine r_iconst (v := nI 0) dX10_seeks_24 (by decide) ?_
    refine r_istore dX10_seeks_25 (by decide) ?_
    refine r_aload_n dX10_seeks_27 rfl ?_
    refine r_getR dX10_seeks_28 fl_X10_90 rfl (kM_0 hM) (pM_49 hM) ?_
    refine r_iconst (v := nI 0) dX10_seeks_31 (by decide) ?_
    refine r_iconst (v := nI 0) dX10_seeks_32 (by decide) ?_
    refine r_iast dX10_seeks_33 (aM_49 hM) (nI_in8 8 (by decide) (by decide)) (nI_clamp (by decide)) ?_
    rw [xM_25, xM_u25]
    have hsk2 := hsk
    rw [skTop, if_neg hz0] at hsk2
    exact w_X10_seeks m H M L E r w lk tv (I (m + 27)) hM hH8 (by omega) hH hMo hM20 hL hL10 hE hlk hbM hT 100000 100000 (Nat.le_refl _) (hh := 1) hsk2 (fun j hj => by rw [show j = 0 by omega, am_up_s]) (by omega) (fun j => Nat.zero_le M) (by omega) hE1 (by simp) (fun j hj => rfl)


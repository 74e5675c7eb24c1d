/-! LOOKING AT DOORS: the reference -/
def tDS (I : mI) (m : Nat) (Dr Sh : Nat → Int32) : mI := va_up (va_up I (m + 30) Dr) (m + 31) Sh
theorem tDS_30 (I : mI) (m : Nat) (Dr Sh : Nat → Int32) : tDS I m Dr Sh (m + 30) = Dr := by unfold tDS; rw [am_up_n _ _ (by omega), am_up_s]
theorem tDS_31 (I : mI) (m : Nat) (Dr Sh : Nat → Int32) : tDS I m Dr Sh (m + 31) = Sh := by unfold tDS; rw [am_up_s]
theorem tDS_m (I : mI) (m : Nat) (Dr Sh : Nat → Int32) : tDS I m Dr Sh m = I m := by unfold tDS; rw [am_up_n _ _ (by omega), am_up_n _ _ (by omega)]
theorem tDS_o (I : mI) (m : Nat) (Dr Sh : Nat → Int32) {a : Nat} (h1 : a ≠ m + 30) (h2 : a ≠ m + 31) : tDS I m Dr Sh a = I a := by unfold tDS; rw [am_up_n _ _ h2, am_up_n _ _ h1]
theorem tDS_p30 (I : mI) (m : Nat) (Dr Sh X : Nat → Int32) : va_up (tDS I m Dr Sh) (m + 30) X = tDS I m X Sh := by
  funext a
  by_cases h1 : a = m + 30
  · rw [h1, am_up_s, tDS_30]
  · rw [am_up_n _ _ h1]
    by_cases h2 : a = m + 31
    · rw [h2, tDS_31, tDS_31]
    · rw [tDS_o _ _ _ _ h1 h2, tDS_o _ _ _ _ h1 h2]
theorem tDS_p31 (I : mI) (m : Nat) (Dr Sh X : Nat → Int32) : va_up (tDS I m Dr Sh) (m + 31) X = tDS I m Dr X := by unfold tDS; rw [am_up_up]
theorem tDS_id (I : mI) (m : Nat) : tDS I m (I (m + 30)) (I (m + 31)) = I := by unfold tDS; rw [am_up_id, am_up_id]
def okf (pa : Nat → Nat → Nat) (H M r w h : Nat) (v : Nat) : Bool := one (w &&& pa h (v + 1)) || (!decide (w &&& pa h (v + 1) = w) && tl pa H M r (w &&& pa h (v + 1)))
theorem tl_s (pa : Nat → Nat → Nat) (H M r w : Nat) (h1 : ¬ one w = true) : tl pa H M (r + 1) w = (List.range' 0 H).any fun h => (List.range' 0 M).all (okf pa H M r w h) := by
  rw [← List.range_eq_range', ← List.range_eq_range']
  show (one w || _) = _
  simp only [Bool.not_eq_true] at h1
  rw [h1]
  rfl
theorem and_40 {w a : Nat} (h : w < 2 ^ 40) : w &&& a < 2 ^ 40 := Nat.lt_of_le_of_lt Nat.and_le_left h
theorem dX10_isOne_0 : decode cX10_isOne 0 = .ok (.lload_n 0, 1) := by decide +kernel
theorem dX10_isOne_1 : decode cX10_isOne 1 = .ok (.lload_n 0, 1) := by decide +kernel
theorem dX10_isOne_2 : decode cX10_isOne 2 = .ok (.lconst 1, 1) := by decide +kernel
theorem dX10_isOne_3 : decode cX10_isOne 3 = .ok (.lsub, 1) := by decide +kernel
theorem dX10_isOne_4 : decode cX10_isOne 4 = .ok (.land, 1) := by decide +kernel
theorem dX10_isOne_5 : decode cX10_isOne 5 = .ok (.lconst 0, 1) := by decide +kernel
theorem dX10_isOne_6 : decode cX10_isOne 6 = .ok (.lcmp, 1) := by decide +kernel
theorem dX10_isOne_7 : decode cX10_isOne 7 = .ok (.ifCond .ne 7, 3) := by decide +kernel
theorem dX10_isOne_10 : decode cX10_isOne 10 = .ok (.iconst 1, 1) := by decide +kernel
theorem dX10_isOne_11 : decode cX10_isOne 11 = .ok (.goto 4, 3) := by decide +kernel
theorem dX10_isOne_14 : decode cX10_isOne 14 = .ok (.iconst 0, 1) := by decide +kernel
theorem dX10_isOne_15 : decode cX10_isOne 15 = .ok (.ireturn, 1) := by decide +kernel
set_option maxHeartbeats 4000000 in
set_option maxRecDepth 100000 in
theorem c_X10_isOne (w : Nat) {n : Nat} {kd : mK} {I : mI} {J : mJ} {P : mP} (hw : w < 2 ^ 40) : Ct yX10_isOne cX10_isOne 2 (some .boolean) 1 0 0 [.long (jN w)] n kd I J P (am_is (some (.int (bz (one w)))) n kd I J P) := by
  refine ct_of 0 (by decide +kernel) (Nat.le_of_ble_eq_true rfl) rfl ?_
  by_cases ho : one w = true
  · rw [ho]
    refine r_lload_n dX10_isOne_0 rfl ?_
    refine r_lload_n dX10_isOne_1 rfl ?_
    refine r_lconst (v := 1) dX10_isOne_2 (by decide) ?_
    refine r_lsub dX10_isOne_3 ?_
    refine r_land dX10_isOne_4 ?_
    refine r_lconst (v := 0) dX10_isOne_5 (by decide) ?_
    refine r_lcmp dX10_isOne_6 ?_
    refine r_if_ne (tgt := 14) dX10_isOne_7 (by decide) (fun hz => absurd (show _ from ((one0 hw).mpr ho)) hz) (fun _ => ?_)
    refine r_iconst (v := nI 1) dX10_isOne_10 (by decide) ?_
    refine r_goto (tgt := 15) dX10_isOne_11 (by decide) ?_
    refine r_zret rfl dX10_isOne_15 (by first | exact Or.inl rfl | exact Or.inr rfl | assumption) ?_
    exact am_is.mk
  · simp only [Bool.not_eq_true] at ho
    rw [ho]
    refine r_lload_n dX10_isOne_0 rfl ?_
    refine r_lload_n dX10_isOne_1 rfl ?_
    refine r_lconst (v := 1) dX10_isOne_2 (by decide) ?_
    refine r_lsub dX10_isOne_3 ?_
    refine r_land dX10_isOne_4 ?_
    refine r_lconst (v := 0) dX10_isOne_5 (by decide) ?_
    refine r_lcmp dX10_isOne_6 ?_
    refine r_if_ne (tgt := 14) dX10_isOne_7 (by decide) (fun _ => ?_) (fun hz => absurd hz (show ¬ _ from (fun q => by rw [(one0 hw).mp q] at ho; exact nomatch ho)))
    refine r_iconst (v := nI 0) dX10_isOne_14 (by decide) ?_
    refine r_zret rfl dX10_isOne_15 (by first | exact Or.inl rfl | exact Or.inr rfl | assumption) ?_
    exact am_is.mk

theorem dX10_tells_0 : decode cX10_tells 0 = .ok (.lload_n 1, 1) := by decide +kernel
theorem dX10_tells_1 : decode cX10_tells 1 = .ok (.invokestatic 451, 3) := by decide +kernel
theorem dX10_tells_4 : decode cX10_tells 4 = .ok (.ifCond .eq 5, 3) := by decide +kernel
theorem dX10_tells_7 : decode cX10_tells 7 = .ok (.iconst 1, 1) := by decide +kernel
theorem dX10_tells_8 : decode cX10_tells 8 = .ok (.ireturn, 1) := by decide +kernel
theorem dX10_tells_9 : decode cX10_tells 9 = .ok (.iload_n 3, 1) := by decide +kernel
theorem dX10_tells_10 : decode cX10_tells 10 = .ok (.ifCond .ne 5, 3) := by decide +kernel
theorem dX10_tells_13 : decode cX10_tells 13 = .ok (.iconst 0, 1) := by decide +kernel
theorem dX10_tells_14 : decode cX10_tells 14 = .ok (.ireturn, 1) := by decide +kernel
theorem dX10_tells_15 : decode cX10_tells 15 = .ok (.iconst 0, 1) := by decide +kernel
theorem dX10_tells_16 : decode cX10_tells 16 = .ok (.istore 5, 2) := by decide +kernel
theorem dX10_tells_18 : decode cX10_tells 18 = .ok (.aload_n 0, 1) := by decide +kernel
theorem dX10_tells_19 : decode cX10_tells 19 = .ok (.getfield 109, 3) := by decide +kernel
theorem dX10_tells_22 : decode cX10_tells 22 = .ok (.iconst 0, 1) := by decide +kernel
theorem dX10_tells_23 : decode cX10_tells 23 = .ok (.lload_n 1, 1) := by decide +kernel
theorem dX10_tells_24 : decode cX10_tells 24 = .ok (.lastore, 1) := by decide +kernel
theorem dX10_tells_25 : decode cX10_tells 25 = .ok (.aload_n 0, 1) := by decide +kernel
theorem dX10_tells_26 : decode cX10_tells 26 = .ok (.getfield 112, 3) := by decide +kernel
theorem dX10_tells_29 : decode cX10_tells 29 = .ok (.iconst 0, 1) := by decide +kernel
theorem dX10_tells_30 : decode cX10_tells 30 = .ok (.iload 4, 2) := by decide +kernel
theorem dX10_tells_32 : decode cX10_tells 32 = .ok (.iconst (-1), 1) := by decide +kernel
theorem dX10_tells_33 : decode cX10_tells 33 = .ok (.if_icmp .ne 7, 3) := by decide +kernel
theorem dX10_tells_36 : decode cX10_tells 36 = .ok (.iconst 0, 1) := by decide +kernel
theorem dX10_tells_37 : decode cX10_tells 37 = .ok (.goto 5, 3) := by decide +kernel
theorem dX10_tells_40 : decode cX10_tells 40 = .ok (.iload 4, 2) := by decide +kernel
theorem dX10_tells_42 : decode cX10_tells 42 = .ok (.iastore, 1) := by decide +kernel
theorem dX10_tells_43 : decode cX10_tells 43 = .ok (.aload_n 0, 1) := by decide +kernel
theorem dX10_tells_44 : decode cX10_tells 44 = .ok (.getfield 115, 3) := by decide +kernel
theorem dX10_tells_47 : decode cX10_tells 47 = .ok (.iconst 0, 1) := by decide +kernel
theorem dX10_tells_48 : decode cX10_tells 48 = .ok (.iconst 0, 1) := by decide +kernel
theorem dX10_tells_49 : decode cX10_tells 49 = .ok (.iastore, 1) := by decide +kernel
theorem dX10_tells_50 : decode cX10_tells 50 = .ok (.aload_n 0, 1) := by decide +kernel
theorem dX10_tells_51 : decode cX10_tells 51 = .ok (.getfield 115, 3) := by decide +kernel
theorem dX10_tells_54 : decode cX10_tells 54 = .ok (.iload 5, 2) := by decide +kernel
theorem dX10_tells_56 : decode cX10_tells 56 = .ok (.dup2, 1) := by decide +kernel
theorem dX10_tells_57 : decode cX10_tells 57 = .ok (.iaload, 1) := by decide +kernel
theorem dX10_tells_58 : decode cX10_tells 58 = .ok (.iconst 1, 1) := by decide +kernel
theorem dX10_tells_59 : decode cX10_tells 59 = .ok (.iadd, 1) := by decide +kernel
theorem dX10_tells_60 : decode cX10_tells 60 = .ok (.iastore, 1) := by decide +kernel
theorem dX10_tells_61 : decode cX10_tells 61 = .ok (.aload_n 0, 1) := by decide +kernel
theorem dX10_tells_62 : decode cX10_tells 62 = .ok (.getfield 115, 3) := by decide +kernel
theorem dX10_tells_65 : decode cX10_tells 65 = .ok (.iload 5, 2) := by decide +kernel
theorem dX10_tells_67 : decode cX10_tells 67 = .ok (.iaload, 1) := by decide +kernel
theorem dX10_tells_68 : decode cX10_tells 68 = .ok (.aload_n 0, 1) := by decide +kernel
theorem dX10_tells_69 : decode cX10_tells 69 = .ok (.getfield 7, 3) := by decide +kernel
theorem dX10_tells_72 : decode cX10_tells 72 = .ok (.if_icmp .le 16, 3) := by decide +kernel
theorem dX10_tells_75 : decode cX10_tells 75 = .ok (.iload 5, 2) := by decide +kernel
theorem dX10_tells_77 : decode cX10_tells 77 = .ok (.ifCond .ne 5, 3) := by decide +kernel
theorem dX10_tells_80 : decode cX10_tells 80 = .ok (.iconst 1, 1) := by decide +kernel
theorem dX10_tells_81 : decode cX10_tells 81 = .ok (.ireturn, 1) := by decide +kernel
theorem dX10_tells_82 : decode cX10_tells 82 = .ok (.iinc 5 (-1), 3) := by decide +kernel
theorem dX10_tells_85 : decode cX10_tells 85 = .ok (.goto (-35), 3) := by decide +kernel
theorem dX10_tells_88 : decode cX10_tells 88 = .ok (.aload_n 0, 1) := by decide +kernel
theorem dX10_tells_89 : decode cX10_tells 89 = .ok (.getfield 109, 3) := by decide +kernel
theorem dX10_tells_92 : decode cX10_tells 92 = .ok (.iload 5, 2) := by decide +kernel
theorem dX10_tells_94 : decode cX10_tells 94 = .ok (.laload, 1) := by decide +kernel
theorem dX10_tells_95 : decode cX10_tells 95 = .ok (.aload_n 0, 1) := by decide +kernel
theorem dX10_tells_96 : decode cX10_tells 96 = .ok (.getfield 105, 3) := by decide +kernel
theorem dX10_tells_99 : decode cX10_tells 99 = .ok (.bipush 21, 2) := by decide +kernel
theorem dX10_tells_101 : decode cX10_tells 101 = .ok (.aload_n 0, 1) := by decide +kernel
theorem dX10_tells_102 : decode cX10_tells 102 = .ok (.getfield 112, 3) := by decide +kernel
theorem dX10_tells_105 : decode cX10_tells 105 = .ok (.iload 5, 2) := by decide +kernel
theorem dX10_tells_107 : decode cX10_tells 107 = .ok (.iaload, 1) := by decide +kernel
theorem dX10_tells_108 : decode cX10_tells 108 = .ok (.imul, 1) := by decide +kernel
theorem dX10_tells_109 : decode cX10_tells 109 = .ok (.aload_n 0, 1) := by decide +kernel
theorem dX10_tells_110 : decode cX10_tells 110 = .ok (.getfield 115, 3) := by decide +kernel
theorem dX10_tells_113 : decode cX10_tells 113 = .ok (.iload 5, 2) := by decide +kernel
theorem dX10_tells_115 : decode cX10_tells 115 = .ok (.iaload, 1) := by decide +kernel
theorem dX10_tells_116 : decode cX10_tells 116 = .ok (.iadd, 1) := by decide +kernel
theorem dX10_tells_117 : decode cX10_tells 117 = .ok (.laload, 1) := by decide +kernel
theorem dX10_tells_118 : decode cX10_tells 118 = .ok (.land, 1) := by decide +kernel
theorem dX10_tells_119 : decode cX10_tells 119 = .ok (.lstore 6, 2) := by decide +kernel
theorem dX10_tells_121 : decode cX10_tells 121 = .ok (.lload 6, 2) := by decide +kernel
theorem dX10_tells_123 : decode cX10_tells 123 = .ok (.invokestatic 451, 3) := by decide +kernel
theorem dX10_tells_126 : decode cX10_tells 126 = .ok (.ifCond .eq 6, 3) := by decide +kernel
theorem dX10_tells_129 : decode cX10_tells 129 = .ok (.goto (-79), 3) := by decide +kernel
theorem dX10_tells_132 : decode cX10_tells 132 = .ok (.iload 5, 2) := by decide +kernel
theorem dX10_tells_134 : decode cX10_tells 134 = .ok (.iconst 1, 1) := by decide +kernel
theorem dX10_tells_135 : decode cX10_tells 135 = .ok (.iadd, 1) := by decide +kernel
theorem dX10_tells_136 : decode cX10_tells 136 = .ok (.iload_n 3, 1) := by decide +kernel
theorem dX10_tells_137 : decode cX10_tells 137 = .ok (.if_icmp .ge 47, 3) := by decide +kernel
theorem dX10_tells_140 : decode cX10_tells 140 = .ok (.lload 6, 2) := by decide +kernel
theorem dX10_tells_142 : decode cX10_tells 142 = .ok (.aload_n 0, 1) := by decide +kernel
theorem dX10_tells_143 : decode cX10_tells 143 = .ok (.getfield 109, 3) := by decide +kernel
theorem dX10_tells_146 : decode cX10_tells 146 = .ok (.iload 5, 2) := by decide +kernel
theorem dX10_tells_148 : decode cX10_tells 148 = .ok (.laload, 1) := by decide +kernel
theorem dX10_tells_149 : decode cX10_tells 149 = .ok (.lcmp, 1) := by decide +kernel
theorem dX10_tells_150 : decode cX10_tells 150 = .ok (.ifCond .eq 34, 3) := by decide +kernel
theorem dX10_tells_153 : decode cX10_tells 153 = .ok (.iinc 5 1, 3) := by decide +kernel
theorem dX10_tells_156 : decode cX10_tells 156 = .ok (.aload_n 0, 1) := by decide +kernel
theorem dX10_tells_157 : decode cX10_tells 157 = .ok (.getfield 109, 3) := by decide +kernel
theorem dX10_tells_160 : decode cX10_tells 160 = .ok (.iload 5, 2) := by decide +kernel
theorem dX10_tells_162 : decode cX10_tells 162 = .ok (.lload 6, 2) := by decide +kernel
theorem dX10_tells_164 : decode cX10_tells 164 = .ok (.lastore, 1) := by decide +kernel
theorem dX10_tells_165 : decode cX10_tells 165 = .ok (.aload_n 0, 1) := by decide +kernel
theorem dX10_tells_166 : decode cX10_tells 166 = .ok (.getfield 112, 3) := by decide +kernel
theorem dX10_tells_169 : decode cX10_tells 169 = .ok (.iload 5, 2) := by decide +kernel
theorem dX10_tells_171 : decode cX10_tells 171 = .ok (.iconst 0, 1) := by decide +kernel
theorem dX10_tells_172 : decode cX10_tells 172 = .ok (.iastore, 1) := by decide +kernel
theorem dX10_tells_173 : decode cX10_tells 173 = .ok (.aload_n 0, 1) := by decide +kernel
theorem dX10_tells_174 : decode cX10_tells 174 = .ok (.getfield 115, 3) := by decide +kernel
theorem dX10_tells_177 : decode cX10_tells 177 = .ok (.iload 5, 2) := by decide +kernel
theorem dX10_tells_179 : decode cX10_tells 179 = .ok (.iconst 0, 1) := by decide +kernel
theorem dX10_tells_180 : decode cX10_tells 180 = .ok (.iastore, 1) := by decide +kernel
theorem dX10_tells_181 : decode cX10_tells 181 = .ok (.goto (-131), 3) := by decide +kernel
theorem dX10_tells_184 : decode cX10_tells 184 = .ok (.iload 5, 2) := by decide +kernel
theorem dX10_tells_186 : decode cX10_tells 186 = .ok (.ifCond .lt 56, 3) := by decide +kernel
theorem dX10_tells_189 : decode cX10_tells 189 = .ok (.aload_n 0, 1) := by decide +kernel
theorem dX10_tells_190 : decode cX10_tells 190 = .ok (.getfield 112, 3) := by decide +kernel
theorem dX10_tells_193 : decode cX10_tells 193 = .ok (.iload 5, 2) := by decide +kernel
theorem dX10_tells_195 : decode cX10_tells 195 = .ok (.dup2, 1) := by decide +kernel
theorem dX10_tells_196 : decode cX10_tells 196 = .ok (.iaload, 1) := by decide +kernel
theorem dX10_tells_197 : decode cX10_tells 197 = .ok (.iconst 1, 1) := by decide +kernel
theorem dX10_tells_198 : decode cX10_tells 198 = .ok (.iadd, 1) := by decide +kernel
theorem dX10_tells_199 : decode cX10_tells 199 = .ok (.iastore, 1) := by decide +kernel
theorem dX10_tells_200 : decode cX10_tells 200 = .ok (.aload_n 0, 1) := by decide +kernel
theorem dX10_tells_201 : decode cX10_tells 201 = .ok (.getfield 115, 3) := by decide +kernel
theorem dX10_tells_204 : decode cX10_tells 204 = .ok (.iload 5, 2) := by decide +kernel
theorem dX10_tells_206 : decode cX10_tells 206 = .ok (.iconst 0, 1) := by decide +kernel
theorem dX10_tells_207 : decode cX10_tells 207 = .ok (.iastore, 1) := by decide +kernel
theorem dX10_tells_208 : decode cX10_tells 208 = .ok (.aload_n 0, 1) := by decide +kernel
theorem dX10_tells_209 : decode cX10_tells 209 = .ok (.getfield 112, 3) := by decide +kernel
theorem dX10_tells_212 : decode cX10_tells 212 = .ok (.iload 5, 2) := by decide +kernel
theorem dX10_tells_214 : decode cX10_tells 214 = .ok (.iaload, 1) := by decide +kernel
theorem dX10_tells_215 : decode cX10_tells 215 = .ok (.aload_n 0, 1) := by decide +kernel
theorem dX10_tells_216 : decode cX10_tells 216 = .ok (.getfield 350, 3) := by decide +kernel
theorem dX10_tells_219 : decode cX10_tells 219 = .ok (.if_icmp .ge 17, 3) := by decide +kernel
theorem dX10_tells_222 : decode cX10_tells 222 = .ok (.iload 5, 2) := by decide +kernel
theorem dX10_tells_224 : decode cX10_tells 224 = .ok (.ifCond .gt 18, 3) := by decide +kernel
theorem dX10_tells_227 : decode cX10_tells 227 = .ok (.iload 4, 2) := by decide +kernel
theorem dX10_tells_229 : decode cX10_tells 229 = .ok (.iconst (-1), 1) := by decide +kernel
theorem dX10_tells_230 : decode cX10_tells 230 = .ok (.if_icmp .ne 6, 3) := by decide +kernel
theorem dX10_tells_233 : decode cX10_tells 233 = .ok (.goto 9, 3) := by decide +kernel
theorem dX10_tells_236 : decode cX10_tells 236 = .ok (.iinc 5 (-1), 3) := by decide +kernel
theorem dX10_tells_239 : decode cX10_tells 239 = .ok (.goto (-55), 3) := by decide +kernel
theorem dX10_tells_242 : decode cX10_tells 242 = .ok (.iload 5, 2) := by decide +kernel
theorem dX10_tells_244 : decode cX10_tells 244 = .ok (.ifCond .ge 5, 3) := by decide +kernel
theorem dX10_tells_247 : decode cX10_tells 247 = .ok (.iconst 0, 1) := by decide +kernel
theorem dX10_tells_248 : decode cX10_tells 248 = .ok (.ireturn, 1) := by decide +kernel
theorem dX10_tells_249 : decode cX10_tells 249 = .ok (.goto (-199), 3) := by decide +kernel

def tsS (m H M n0 w0 : Nat) (pa : Nat → Nat → Nat) (n : Nat) (kd : mK) (I : mI) (J : mJ) (P : mP) (post : am_Post) : Prop := kM kd P m ∧ I m 1 = nI H ∧ I m 2 = nI M ∧ (∀ h v, h < H → 1 ≤ v → v ≤ M → J (m + 28) (21 * h + v) = jN (pa h v)) ∧ H ≤ 8 ∧ M ≤ 20 ∧ n0 ≤ 8
def LBp (m H M n0 w0 : Nat) (pa : Nat → Nat → Nat) (n : Nat) (kd : mK) (I : mI) (J : mJ) (P : mP) (post : am_Post) (r p : Nat) : Prop := ∀ (w : Nat) (Am : Nat → Int64) (Dr Sh : Nat → Int32) (z6 z7 : Option Value), w < 2 ^ 40 → Am p = jN w → Dr p = nI 0 → Sh p = nI 0 → (((List.range' 0 H).any fun h => (List.range' 0 M).all (okf pa H M r w h)) = true → ∀ (Am' : Nat → Int64) (Dr' Sh' : Nat → Int32) (z6 z7 : Option Value), (∀ j, j < p → Am' j = Am j ∧ Dr' j = Dr j ∧ Sh' j = Sh j) → Ru yX10_tells.cls cX10_tells 8 (some .boolean) yX10_tells.name 2 (post) 0 0 75 [some (.ref m), some (.long (jN w0)), none, some (.int (nI n0)), some (.int (-1)), some (.int (nI p)), z6, z7] [] n kd (tDS I m Dr' Sh') (va_up J (m + 29) Am') P) → (((List.range' 0 H).any fun h => (List.range' 0 M).all (okf pa H M r w h)) = false → ∀ (Am' : Nat → Int64) (Dr' Sh' : Nat → Int32) (z6 z7 : Option Value), (∀ j, j < p → Am' j = Am j ∧ Dr' j = Dr j ∧ Sh' j = Sh j) → Ru yX10_tells.cls cX10_tells 8 (some .boolean) yX10_tells.name 2 (post) 0 0 236 [some (.ref m), some (.long (jN w0)), none, some (.int (nI n0)), some (.int (-1)), some (.int (nI p)), z6, z7] [] n kd (tDS I m Dr' Sh') (va_up J (m + 29) Am') P) → Ru yX10_tells.cls cX10_tells 8 (some .boolean) yX10_tells.name 2 (post) 0 0 50 [some (.ref m), some (.long (jN w0)), none, some (.int (nI n0)), some (.int (-1)), some (.int (nI p)), z6, z7] [] n kd (tDS I m Dr Sh) (va_up J (m + 29) Am) P
set_option maxHeartbeats 4000000 in
set_option maxRecDepth 100000 in
theorem ts_shows (m H M n0 w0 : Nat) (pa : Nat → Nat → Nat) (n : Nat) (kd : mK) (I : mI) (J : mJ) (P : mP) (post : am_Post) (hT : tsS m H M n0 w0 pa n kd I J P post) (r p w h : Nat) (hp : p + r + 1 = n0) (hw : w < 2 ^ 40) (hh : h < H) (hN : ∀ r2, r2 + 1 = r → LBp m H M n0 w0 pa n kd I J P post r2 (p + 1)) : ∀ (cnt v : Nat) (Am : Nat → Int64) (Dr Sh : Nat → Int32) (z6 z7 : Option Value), v + cnt = M → Am p = jN w → Dr p = nI h → Sh p = nI v → ((List.range' v cnt).all (okf pa H M r w h) = true → ∀ (Am' : Nat → Int64) (Dr' Sh' : Nat → Int32) (z6 z7 : Option Value), (∀ j, j < p → Am' j = Am j ∧ Dr' j = Dr j ∧ Sh' j = Sh j) → Ru yX10_tells.cls cX10_tells 8 (some .boolean) yX10_tells.name 2 (post) 0 0 75 [some (.ref m), some (.long (jN w0)), none, some (.int (nI n0)), some (.int (-1)), some (.int (nI p)), z6, z7] [] n kd (tDS I m Dr' Sh') (va_up J (m + 29) Am') P) → ((List.range' v cnt).all (okf pa H M r w h) = false → ∀ (Am' : Nat → Int64) (Dr' Sh' : Nat → Int32) (z6 z7 : Option Value), (∀ j, j < p → Am' j = Am j ∧ Dr' j = Dr j ∧ Sh' j = Sh j) → Am' p = jN w → Dr' p = nI h → Ru yX10_tells.cls cX10_tells 8 (some .boolean) yX10_tells.name 2 (post) 0 0 184 [some (.ref m), some (.long (jN w0)), none, some (.int (nI n0)), some (.int (-1)), some (.int (nI p)), z6, z7] [] n kd (tDS I m Dr' Sh') (va_up J (m + 29) Am') P) → Ru yX10_tells.cls cX10_tells 8 (some .boolean) yX10_tells.name 2 (post) 0 0 50 [some (.ref m), some (.long (jN w0)), none, some (.int (nI n0)), some (.int (-1)), some (.int (nI p)), z6, z7] [] n kd (tDS I m Dr Sh) (va_up J (m + 29) Am) P := by
  have hT0 := hT
  obtain ⟨hM, hI1, hI2, hPa, hH, hM20, hn0⟩ := hT0
  intro cnt
  induction cnt with
  | zero =>
    intro v Am Dr Sh z6 z7 hv hAm hDr hSh hS hD
    have ev : v = M := by omega
    subst ev
    refine r_aload_n dX10_tells_50 rfl ?_
    refine r_getR dX10_tells_51 fl_X10_115 rfl (kM_0 hM) (pM_63 hM) ?_
    refine r_iload dX10_tells_54 rfl ?_
    refine r_dup2 dX10_tells_56 rfl rfl ?_
    refine r_iald dX10_tells_57 (aM_63 hM) (nI_in8 9 (by omega) (by decide)) (nI_clamp (by omega)) ?_
    rw [tDS_31, hSh]
    refine r_iconst (v := nI 1) dX10_tells_58 (by decide) ?_
    refine r_iadd dX10_tells_59 ?_
    rw [nI_add]
    refine r_iast dX10_tells_60 (aM_63 hM) (nI_in8 9 (by omega) (by decide)) (nI_clamp (by omega)) ?_
    rw [tDS_31, tDS_p31]
    refine r_aload_n dX10_tells_61 rfl ?_
    refine r_getR dX10_tells_62 fl_X10_115 rfl (kM_0 hM) (pM_63 hM) ?_
    refine r_iload dX10_tells_65 rfl ?_
    refine r_iald dX10_tells_67 (aM_63 hM) (nI_in8 9 (by omega) (by decide)) (nI_clamp (by omega)) ?_
    rw [tDS_31, am_up_s]
    refine r_aload_n dX10_tells_68 rfl ?_
    refine r_getI dX10_tells_69 fl_X10_7 rfl (kM_0 hM) ?_
    rw [tDS_m, hI2]
    refine r_icmp_le (tgt := 88) dX10_tells_72 (by decide) (fun hz => absurd hz (show ¬ _ from (by rw [nI_leI (by omega) (by omega)]; omega))) (fun _ => ?_)
    exact hS rfl _ _ _ _ _ (fun j hj => ⟨rfl, rfl, by rw [am_up_n _ _ (by omega)]⟩)
  | succ cnt ih =>
    intro v Am Dr Sh z6 z7 hv hAm hDr hSh hS hD
    rw [List.range'_succ, List.all_cons] at hS hD
    have hs40 : (w &&& pa h (v + 1)) < 2 ^ 40 := and_40 hw
    by_cases ho : one (w &&& pa h (v + 1)) = true
    · have hok : okf pa H M r w h v = true := by unfold okf; rw [ho]; rfl
      rw [hok, Bool.true_and] at hS hD
      refine r_aload_n dX10_tells_50 rfl ?_
      refine r_getR dX10_tells_51 fl_X10_115 rfl (kM_0 hM) (pM_63 hM) ?_
      refine r_iload dX10_tells_54 rfl ?_
      refine r_dup2 dX10_tells_56 rfl rfl ?_
      refine r_iald dX10_tells_57 (aM_63 hM) (nI_in8 9 (by omega) (by decide)) (nI_clamp (by omega)) ?_
      rw [tDS_31, hSh]
      refine r_iconst (v := nI 1) dX10_tells_58 (by decide) ?_
      refine r_iadd dX10_tells_59 ?_
      rw [nI_add]
      refine r_iast dX10_tells_60 (aM_63 hM) (nI_in8 9 (by omega) (by decide)) (nI_clamp (by omega)) ?_
      rw [tDS_31, tDS_p31]
      refine r_aload_n dX10_tells_61 rfl ?_
      refine r_getR dX10_tells_62 fl_X10_115 rfl (kM_0 hM) (pM_63 hM) ?_
      refine r_iload dX10_tells_65 rfl ?_
      refine r_iald dX10_tells_67 (aM_63 hM) (nI_in8 9 (by omega) (by decide)) (nI_clamp (by omega)) ?_
      rw [tDS_31, am_up_s]
      refine r_aload_n dX10_tells_68 rfl ?_
      refine r_getI dX10_tells_69 fl_X10_7 rfl (kM_0 hM) ?_
      rw [tDS_m, hI2]
      refine r_icmp_le (tgt := 88) dX10_tells_72 (by decide) (fun _ => ?_) (fun hz => absurd (show _ from (by rw [nI_leI (by omega) (by omega)]; omega)) hz)
      refine r_aload_n dX10_tells_88 rfl ?_
      refine r_getR dX10_tells_89 fl_X10_109 rfl (kM_0 hM) (pM_61 hM) ?_
      refine r_iload dX10_tells_92 rfl ?_
      refine r_lald dX10_tells_94 (aM_61 hM) (nI_in8 9 (by omega) (by decide)) (nI_clamp (by omega)) ?_
      rw [am_up_s, hAm]
      refine r_aload_n dX10_tells_95 rfl ?_
      refine r_getR dX10_tells_96 fl_X10_105 rfl (kM_0 hM) (pM_60 hM) ?_
      refine r_bipush (v := nI 21) dX10_tells_99 (by decide) ?_
      refine r_aload_n dX10_tells_101 rfl ?_
      refine r_getR dX10_tells_102 fl_X10_112 rfl (kM_0 hM) (pM_62 hM) ?_
      refine r_iload dX10_tells_105 rfl ?_
      refine r_iald dX10_tells_107 (aM_62 hM) (nI_in8 9 (by omega) (by decide)) (nI_clamp (by omega)) ?_
      rw [tDS_30, hDr]
      refine r_imul dX10_tells_108 ?_
      rw [pk_mul]
      refine r_aload_n dX10_tells_109 rfl ?_
      refine r_getR dX10_tells_110 fl_X10_115 rfl (kM_0 hM) (pM_63 hM) ?_
      refine r_iload dX10_tells_113 rfl ?_
      refine r_iald dX10_tells_115 (aM_63 hM) (nI_in8 9 (by omega) (by decide)) (nI_clamp (by omega)) ?_
      rw [tDS_31, am_up_s]
      refine r_iadd dX10_tells_116 ?_
      rw [nI_add]
      refine r_lald dX10_tells_117 (aM_60 hM) (nI_in8 168 (by omega) (by decide)) (nI_clamp (by omega)) ?_
      rw [am_up_n _ _ (by omega), hPa h (v + 1) hh (by omega) (by omega)]
      refine r_land dX10_tells_118 ?_
      rw [jN_and]
      refine r_lstore dX10_tells_119 (by decide) ?_
      refine r_lload dX10_tells_121 rfl ?_
      refine r_statE (c_X10_isOne (w &&& pa h (v + 1)) hs40) lk_X10_451 mc_X10_isOne dX10_tells_123 (by decide) rfl rfl (Nat.le_of_ble_eq_true rfl) ?_
      refine r_if_eq (tgt := 132) dX10_tells_126 (by decide) (fun hz => absurd hz (show ¬ _ from (by rw [ho]; decide))) (fun _ => ?_)
      refine r_goto (tgt := 50) dX10_tells_129 (by decide) ?_
      refine ih (v + 1) Am Dr _ _ _ (by omega) hAm hDr (by rw [am_up_s]) (fun q Am' Dr' Sh' z6 z7 hs => hS q Am' Dr' Sh' z6 z7 (fun j hj => ?_)) (fun q Am' Dr' Sh' z6 z7 hs => hD q Am' Dr' Sh' z6 z7 (fun j hj => ?_))
      · have := hs j hj; rw [am_up_n _ _ (by omega)] at this; exact this
      · have := hs j hj; rw [am_up_n _ _ (by omega)] at this; exact this
    · have ho' : one (w &&& pa h (v + 1)) = false := by simpa using ho
      by_cases hr : r = 0
      · subst hr
        have hok : okf pa H M 0 w h v = false := by unfold okf tl; rw [ho']; simp
        rw [hok, Bool.false_and] at hS hD
        refine r_aload_n dX10_tells_50 rfl ?_
        refine r_getR dX10_tells_51 fl_X10_115 rfl (kM_0 hM) (pM_63 hM) ?_
        refine r_iload dX10_tells_54 rfl ?_
        refine r_dup2 dX10_tells_56 rfl rfl ?_
        refine r_iald dX10_tells_57 (aM_63 hM) (nI_in8 9 (by omega) (by decide)) (nI_clamp (by omega)) ?_
        rw [tDS_31, hSh]
        refine r_iconst (v := nI 1) dX10_tells_58 (by decide) ?_
        refine r_iadd dX10_tells_59 ?_
        rw [nI_add]
        refine r_iast dX10_tells_60 (aM_63 hM) (nI_in8 9 (by omega) (by decide)) (nI_clamp (by omega)) ?_
        rw [tDS_31, tDS_p31]
        refine r_aload_n dX10_tells_61 rfl ?_
        refine r_getR dX10_tells_62 fl_X10_115 rfl (kM_0 hM) (pM_63 hM) ?_
        refine r_iload dX10_tells_65 rfl ?_
        refine r_iald dX10_tells_67 (aM_63 hM) (nI_in8 9 (by omega) (by decide)) (nI_clamp (by omega)) ?_
        rw [tDS_31, am_up_s]
        refine r_aload_n dX10_tells_68 rfl ?_
        refine r_getI dX10_tells_69 fl_X10_7 rfl (kM_0 hM) ?_
        rw [tDS_m, hI2]
        refine r_icmp_le (tgt := 88) dX10_tells_72 (by decide) (fun _ => ?_) (fun hz => absurd (show _ from (by rw [nI_leI (by omega) (by omega)]; omega)) hz)
        refine r_aload_n dX10_tells_88 rfl ?_
        refine r_getR dX10_tells_89 fl_X10_109 rfl (kM_0 hM) (pM_61 hM) ?_
        refine r_iload dX10_tells_92 rfl ?_
        refine r_lald dX10_tells_94 (aM_61 hM) (nI_in8 9 (by omega) (by decide)) (nI_clamp (by omega)) ?_
        rw [am_up_s, hAm]
        refine r_aload_n dX10_tells_95 rfl ?_
        refine r_getR dX10_tells_96 fl_X10_105 rfl (kM_0 hM) (pM_60 hM) ?_
        refine r_bipush (v := nI 21) dX10_tells_99 (by decide) ?_
        refine r_aload_n dX10_tells_101 rfl ?_
        refine r_getR dX10_tells_102 fl_X10_112 rfl (kM_0 hM) (pM_62 hM) ?_
        refine r_iload dX10_tells_105 rfl ?_
        refine r_iald dX10_tells_107 (aM_62 hM) (nI_in8 9 (by omega) (by decide)) (nI_clamp (by omega)) ?_
        rw [tDS_30, hDr]
        refine r_imul dX10_tells_108 ?_
        rw [pk_mul]
        refine r_aload_n dX10_tells_109 rfl ?_
        refine r_getR dX10_tells_110 fl_X10_115 rfl (kM_0 hM) (pM_63 hM) ?_
        refine r_iload dX10_tells_113 rfl ?_
        refine r_iald dX10_tells_115 (aM_63 hM) (nI_in8 9 (by omega) (by decide)) (nI_clamp (by omega)) ?_
        rw [tDS_31, am_up_s]
        refine r_iadd dX10_tells_116 ?_
        rw [nI_add]
        refine r_lald dX10_tells_117 (aM_60 hM) (nI_in8 168 (by omega) (by decide)) (nI_clamp (by omega)) ?_
        rw [am_up_n _ _ (by omega), hPa h (v + 1) hh (by omega) (by omega)]
        refine r_land dX10_tells_118 ?_
        rw [jN_and]
        refine r_lstore dX10_tells_119 (by decide) ?_
        refine r_lload dX10_tells_121 rfl ?_
        refine r_statE (c_X10_isOne (w &&& pa h (v + 1)) hs40) lk_X10_451 mc_X10_isOne dX10_tells_123 (by decide) rfl rfl (Nat.le_of_ble_eq_true rfl) ?_
        refine r_if_eq (tgt := 132) dX10_tells_126 (by decide) (fun _ => ?_) (fun hz => absurd (show _ from (by rw [ho']; decide)) hz)
        refine r_iload dX10_tells_132 rfl ?_
        refine r_iconst (v := nI 1) dX10_tells_134 (by decide) ?_
        refine r_iadd dX10_tells_135 ?_
        rw [nI_add]
        refine r_iload_n dX10_tells_136 rfl ?_
        refine r_icmp_ge (tgt := 184) dX10_tells_137 (by decide) (fun _ => ?_) (fun hz => absurd (show _ from (by rw [nI_leI (by omega) (by omega)]; omega)) hz)
        exact hD rfl Am Dr _ _ _ (fun j hj => ⟨rfl, rfl, by rw [am_up_n _ _ (by omega)]⟩) hAm hDr
      · by_cases he : (w &&& pa h (v + 1)) = w
        · have hok : okf pa H M r w h v = false := by unfold okf; rw [ho', decide_eq_true he]; rfl
          rw [hok, Bool.false_and] at hS hD
          refine r_aload_n dX10_tells_50 rfl ?_
          refine r_getR dX10_tells_51 fl_X10_115 rfl (kM_0 hM) (pM_63 hM) ?_
          refine r_iload dX10_tells_54 rfl ?_
          refine r_dup2 dX10_tells_56 rfl rfl ?_
          refine r_iald dX10_tells_57 (aM_63 hM) (nI_in8 9 (by omega) (by decide)) (nI_clamp (by omega)) ?_
          rw [tDS_31, hSh]
          refine r_iconst (v := nI 1) dX10_tells_58 (by decide) ?_
          refine r_iadd dX10_tells_59 ?_
          rw [nI_add]
          refine r_iast dX10_tells_60 (aM_63 hM) (nI_in8 9 (by omega) (by decide)) (nI_clamp (by omega)) ?_
          rw [tDS_31, tDS_p31]
          refine r_aload_n dX10_tells_61 rfl ?_
          refine r_getR dX10_tells_62 fl_X10_115 rfl (kM_0 hM) (pM_63 hM) ?_
          refine r_iload dX10_tells_65 rfl ?_
          refine r_iald dX10_tells_67 (aM_63 hM) (nI_in8 9 (by omega) (by decide)) (nI_clamp (by omega)) ?_
          rw [tDS_31, am_up_s]
          refine r_aload_n dX10_tells_68 rfl ?_
          refine r_getI dX10_tells_69 fl_X10_7 rfl (kM_0 hM) ?_
          rw [tDS_m, hI2]
          refine r_icmp_le (tgt := 88) dX10_tells_72 (by decide) (fun _ => ?_) (fun hz => absurd (show _ from (by rw [nI_leI (by omega) (by omega)]; omega)) hz)
          refine r_aload_n dX10_tells_88 rfl ?_
          refine r_getR dX10_tells_89 fl_X10_109 rfl (kM_0 hM) (pM_61 hM) ?_
          refine r_iload dX10_tells_92 rfl ?_
          refine r_lald dX10_tells_94 (aM_61 hM) (nI_in8 9 (by omega) (by decide)) (nI_clamp (by omega)) ?_
          rw [am_up_s, hAm]
          refine r_aload_n dX10_tells_95 rfl ?_
          refine r_getR dX10_tells_96 fl_X10_105 rfl (kM_0 hM) (pM_60 hM) ?_
          refine r_bipush (v := nI 21) dX10_tells_99 (by decide) ?_
          refine r_aload_n dX10_tells_101 rfl ?_
          refine r_getR dX10_tells_102 fl_X10_112 rfl (kM_0 hM) (pM_62 hM) ?_
          refine r_iload dX10_tells_105 rfl ?_
          refine r_iald dX10_tells_107 (aM_62 hM) (nI_in8 9 (by omega) (by decide)) (nI_clamp (by omega)) ?_
          rw [tDS_30, hDr]
          refine r_imul dX10_tells_108 ?_
          rw [pk_mul]
          refine r_aload_n dX10_tells_109 rfl ?_
          refine r_getR dX10_tells_110 fl_X10_115 rfl (kM_0 hM) (pM_63 hM) ?_
          refine r_iload dX10_tells_113 rfl ?_
          refine r_iald dX10_tells_115 (aM_63 hM) (nI_in8 9 (by omega) (by decide)) (nI_clamp (by omega)) ?_
          rw [tDS_31, am_up_s]
          refine r_iadd dX10_tells_116 ?_
          rw [nI_add]
          refine r_lald dX10_tells_117 (aM_60 hM) (nI_in8 168 (by omega) (by decide)) (nI_clamp (by omega)) ?_
          rw [am_up_n _ _ (by omega), hPa h (v + 1) hh (by omega) (by omega)]
          refine r_land dX10_tells_118 ?_
          rw [jN_and]
          refine r_lstore dX10_tells_119 (by decide) ?_
          refine r_lload dX10_tells_121 rfl ?_
          refine r_statE (c_X10_isOne (w &&& pa h (v + 1)) hs40) lk_X10_451 mc_X10_isOne dX10_tells_123 (by decide) rfl rfl (Nat.le_of_ble_eq_true rfl) ?_
          refine r_if_eq (tgt := 132) dX10_tells_126 (by decide) (fun _ => ?_) (fun hz => absurd (show _ from (by rw [ho']; decide)) hz)
          refine r_iload dX10_tells_132 rfl ?_
          refine r_iconst (v := nI 1) dX10_tells_134 (by decide) ?_
          refine r_iadd dX10_tells_135 ?_
          rw [nI_add]
          refine r_iload_n dX10_tells_136 rfl ?_
          refine r_icmp_ge (tgt := 184) dX10_tells_137 (by decide) (fun hz => absurd hz (show ¬ _ from (by rw [nI_leI (by omega) (by omega)]; omega))) (fun _ => ?_)
          refine r_lload dX10_tells_140 rfl ?_
          refine r_aload_n dX10_tells_142 rfl ?_
          refine r_getR dX10_tells_143 fl_X10_109 rfl (kM_0 hM) (pM_61 hM) ?_
          refine r_iload dX10_tells_146 rfl ?_
          refine r_lald dX10_tells_148 (aM_61 hM) (nI_in8 9 (by omega) (by decide)) (nI_clamp (by omega)) ?_
          rw [am_up_s, hAm]
          refine r_lcmp dX10_tells_149 ?_
          refine r_if_eq (tgt := 184) dX10_tells_150 (by decide) (fun _ => ?_) (fun hz => absurd (show _ from ((lg_cmp_eq _ _).mpr (by rw [he]))) hz)
          exact hD rfl Am Dr _ _ _ (fun j hj => ⟨rfl, rfl, by rw [am_up_n _ _ (by omega)]⟩) hAm hDr
        · obtain ⟨r2, hr2⟩ : ∃ r2, r2 + 1 = r := ⟨r - 1, by omega⟩
          have hB := hN r2 hr2
          have hok : okf pa H M r w h v = (List.range' 0 H).any fun h2 => (List.range' 0 M).all (okf pa H M r2 (w &&& pa h (v + 1)) h2) := by
            unfold okf
            rw [ho', decide_eq_false he, ← hr2, tl_s pa H M r2 _ ho]
            rfl
          rw [hok] at hS hD
          refine r_aload_n dX10_tells_50 rfl ?_
          refine r_getR dX10_tells_51 fl_X10_115 rfl (kM_0 hM) (pM_63 hM) ?_
          refine r_iload dX10_tells_54 rfl ?_
          refine r_dup2 dX10_tells_56 rfl rfl ?_
          refine r_iald dX10_tells_57 (aM_63 hM) (nI_in8 9 (by omega) (by decide)) (nI_clamp (by omega)) ?_
          rw [tDS_31, hSh]
          refine r_iconst (v := nI 1) dX10_tells_58 (by decide) ?_
          refine r_iadd dX10_tells_59 ?_
          rw [nI_add]
          refine r_iast dX10_tells_60 (aM_63 hM) (nI_in8 9 (by omega) (by decide)) (nI_clamp (by omega)) ?_
          rw [tDS_31, tDS_p31]
          refine r_aload_n dX10_tells_61 rfl ?_
          refine r_getR dX10_tells_62 fl_X10_115 rfl (kM_0 hM) (pM_63 hM) ?_
          refine r_iload dX10_tells_65 rfl ?_
          refine r_iald dX10_tells_67 (aM_63 hM) (nI_in8 9 (by omega) (by decide)) (nI_clamp (by omega)) ?_
          rw [tDS_31, am_up_s]
          refine r_aload_n dX10_tells_68 rfl ?_
          refine r_getI dX10_tells_69 fl_X10_7 rfl (kM_0 hM) ?_
          rw [tDS_m, hI2]
          refine r_icmp_le (tgt := 88) dX10_tells_72 (by decide) (fun _ => ?_) (fun hz => absurd (show _ from (by rw [nI_leI (by omega) (by omega)]; omega)) hz)
          refine r_aload_n dX10_tells_88 rfl ?_
          refine r_getR dX10_tells_89 fl_X10_109 rfl (kM_0 hM) (pM_61 hM) ?_
          refine r_iload dX10_tells_92 rfl ?_
          refine r_lald dX10_tells_94 (aM_61 hM) (nI_in8 9 (by omega) (by decide)) (nI_clamp (by omega)) ?_
          rw [am_up_s, hAm]
          refine r_aload_n dX10_tells_95 rfl ?_
          refine r_getR dX10_tells_96 fl_X10_105 rfl (kM_0 hM) (pM_60 hM) ?_
          refine r_bipush (v := nI 21) dX10_tells_99 (by decide) ?_
          refine r_aload_n dX10_tells_101 rfl ?_
          refine r_getR dX10_tells_102 fl_X10_112 rfl (kM_0 hM) (pM_62 hM) ?_
          refine r_iload dX10_tells_105 rfl ?_
          refine r_iald dX10_tells_107 (aM_62 hM) (nI_in8 9 (by omega) (by decide)) (nI_clamp (by omega)) ?_
          rw [tDS_30, hDr]
          refine r_imul dX10_tells_108 ?_
          rw [pk_mul]
          refine r_aload_n dX10_tells_109 rfl ?_
          refine r_getR dX10_tells_110 fl_X10_115 rfl (kM_0 hM) (pM_63 hM) ?_
          refine r_iload dX10_tells_113 rfl ?_
          refine r_iald dX10_tells_115 (aM_63 hM) (nI_in8 9 (by omega) (by decide)) (nI_clamp (by omega)) ?_
          rw [tDS_31, am_up_s]
          refine r_iadd dX10_tells_116 ?_
          rw [nI_add]
          refine r_lald dX10_tells_117 (aM_60 hM) (nI_in8 168 (by omega) (by decide)) (nI_clamp (by omega)) ?_
          rw [am_up_n _ _ (by omega), hPa h (v + 1) hh (by omega) (by omega)]
          refine r_land dX10_tells_118 ?_
          rw [jN_and]
          refine r_lstore dX10_tells_119 (by decide) ?_
          refine r_lload dX10_tells_121 rfl ?_
          refine r_statE (c_X10_isOne (w &&& pa h (v + 1)) hs40) lk_X10_451 mc_X10_isOne dX10_tells_123 (by decide) rfl rfl (Nat.le_of_ble_eq_true rfl) ?_
          refine r_if_eq (tgt := 132) dX10_tells_126 (by decide) (fun _ => ?_) (fun hz => absurd (show _ from (by rw [ho']; decide)) hz)
          refine r_iload dX10_tells_132 rfl ?_
          refine r_iconst (v := nI 1) dX10_tells_134 (by decide) ?_
          refine r_iadd dX10_tells_135 ?_
          rw [nI_add]
          refine r_iload_n dX10_tells_136 rfl ?_
          refine r_icmp_ge (tgt := 184) dX10_tells_137 (by decide) (fun hz => absurd hz (show ¬ _ from (by rw [nI_leI (by omega) (by omega)]; omega))) (fun _ => ?_)
          refine r_lload dX10_tells_140 rfl ?_
          refine r_aload_n dX10_tells_142 rfl ?_
          refine r_getR dX10_tells_143 fl_X10_109 rfl (kM_0 hM) (pM_61 hM) ?_
          refine r_iload dX10_tells_146 rfl ?_
          refine r_lald dX10_tells_148 (aM_61 hM) (nI_in8 9 (by omega) (by decide)) (nI_clamp (by omega)) ?_
          rw [am_up_s, hAm]
          refine r_lcmp dX10_tells_149 ?_
          refine r_if_eq (tgt := 184) dX10_tells_150 (by decide) (fun hz => absurd hz (show ¬ _ from (fun q => he (jN_inj (by omega) (by omega) ((lg_cmp_eq _ _).mp q))))) (fun _ => ?_)
          refine r_iinc (v := nI (p + 1)) dX10_tells_153 rfl (nI_inc p) ?_
          refine r_aload_n dX10_tells_156 rfl ?_
          refine r_getR dX10_tells_157 fl_X10_109 rfl (kM_0 hM) (pM_61 hM) ?_
          refine r_iload dX10_tells_160 rfl ?_
          refine r_lload dX10_tells_162 rfl ?_
          refine r_last dX10_tells_164 (aM_61 hM) (nI_in8 9 (by omega) (by decide)) (nI_clamp (by omega)) ?_
          rw [am_up_s, am_up_up]
          refine r_aload_n dX10_tells_165 rfl ?_
          refine r_getR dX10_tells_166 fl_X10_112 rfl (kM_0 hM) (pM_62 hM) ?_
          refine r_iload dX10_tells_169 rfl ?_
          refine r_iconst (v := nI 0) dX10_tells_171 (by decide) ?_
          refine r_iast dX10_tells_172 (aM_62 hM) (nI_in8 9 (by omega) (by decide)) (nI_clamp (by omega)) ?_
          rw [tDS_30, tDS_p30]
          refine r_aload_n dX10_tells_173 rfl ?_
          refine r_getR dX10_tells_174 fl_X10_115 rfl (kM_0 hM) (pM_63 hM) ?_
          refine r_iload dX10_tells_177 rfl ?_
          refine r_iconst (v := nI 0) dX10_tells_179 (by decide) ?_
          refine r_iast dX10_tells_180 (aM_63 hM) (nI_in8 9 (by omega) (by decide)) (nI_clamp (by omega)) ?_
          rw [tDS_31, tDS_p31]
          refine r_goto (tgt := 50) dX10_tells_181 (by decide) ?_
          have hsm : ∀ (Am' : Nat → Int64) (Dr' Sh' : Nat → Int32), (∀ j, j < p + 1 → Am' j = va_up Am (p + 1) (jN (w &&& pa h (v + 1))) j ∧ Dr' j = va_up Dr (p + 1) (nI 0) j ∧ Sh' j = va_up (va_up Sh p (nI (v + 1))) (p + 1) (nI 0) j) → (∀ j, j < p → Am' j = Am j ∧ Dr' j = Dr j ∧ Sh' j = Sh j) ∧ Am' p = jN w ∧ Dr' p = nI h ∧ Sh' p = nI (v + 1) := fun Am' Dr' Sh' hs => by
            have h0 := hs p (by omega)
            rw [am_up_n _ _ (by omega), am_up_n _ _ (by omega), am_up_n _ _ (by omega), am_up_s] at h0
            refine ⟨fun j hj => ?_, h0.1.trans hAm, h0.2.1.trans hDr, h0.2.2⟩
            have h1 := hs j (by omega)
            rw [am_up_n _ _ (by omega), am_up_n _ _ (by omega), am_up_n _ _ (by omega), am_up_n _ _ (by omega)] at h1
            exact h1
          refine hB (w &&& pa h (v + 1)) _ _ _ _ _ hs40 (by rw [am_up_s]) (by rw [am_up_s]) (by rw [am_up_s]) (fun q Am' Dr' Sh' z6 z7 hs => ?_) (fun q Am' Dr' Sh' z6 z7 hs => ?_)
          · rw [q, Bool.true_and] at hS hD
            obtain ⟨g1, g2, g3, g4⟩ := hsm _ _ _ hs
            refine r_iload dX10_tells_75 rfl ?_
            refine r_if_ne (tgt := 82) dX10_tells_77 (by decide) (fun _ => ?_) (fun hz => absurd hz (show ¬ _ from (by rw [z_eq (by omega)]; omega)))
            refine r_iinc (v := nI p) dX10_tells_82 rfl (nI_dec p) ?_
            refine r_goto (tgt := 50) dX10_tells_85 (by decide) ?_
            refine ih (v + 1) Am' Dr' Sh' _ _ (by omega) g2 g3 g4 (fun q A2 D2 S2 z6 z7 hs => hS q A2 D2 S2 z6 z7 (fun j hj => ?_)) (fun q A2 D2 S2 z6 z7 hs => hD q A2 D2 S2 z6 z7 (fun j hj => ?_))
            · have x := hs j hj; have y := g1 j hj; exact ⟨x.1.trans y.1, x.2.1.trans y.2.1, x.2.2.trans y.2.2⟩
            · have x := hs j hj; have y := g1 j hj; exact ⟨x.1.trans y.1, x.2.1.trans y.2.1, x.2.2.trans y.2.2⟩
          · rw [q, Bool.false_and] at hS hD
            obtain ⟨g1, g2, g3, g4⟩ := hsm _ _ _ hs
            refine r_iinc (v := nI p) dX10_tells_236 rfl (nI_dec p) ?_
            refine r_goto (tgt := 184) dX10_tells_239 (by decide) ?_
            exact hD rfl _ _ _ _ _ g1 g2 g3

set_option maxHeartbeats 4000000 in
set_option maxRecDepth 100000 in
theorem ts_doors (m H M n0 w0 : Nat) (pa : Nat → Nat → Nat) (n : Nat) (kd : mK) (I : mI) (J : mJ) (P : mP) (post : am_Post) (hT : tsS m H M n0 w0 pa n kd I J P post) (r p w : Nat) (hp : p + r + 1 = n0) (hw : w < 2 ^ 40) (hN : ∀ r2, r2 + 1 = r → LBp m H M n0 w0 pa n kd I J P post r2 (p + 1)) : ∀ (cnt h : Nat) (Am : Nat → Int64) (Dr Sh : Nat → Int32) (z6 z7 : Option Value), h + cnt + 1 = H → Am p = jN w → Dr p = nI h → Sh p = nI 0 → (((List.range' h (cnt + 1)).any fun h => (List.range' 0 M).all (okf pa H M r w h)) = true → ∀ (Am' : Nat → Int64) (Dr' Sh' : Nat → Int32) (z6 z7 : Option Value), (∀ j, j < p → Am' j = Am j ∧ Dr' j = Dr j ∧ Sh' j = Sh j) → Ru yX10_tells.cls cX10_tells 8 (some .boolean) yX10_tells.name 2 (post) 0 0 75 [some (.ref m), some (.long (jN w0)), none, some (.int (nI n0)), some (.int (-1)), some (.int (nI p)), z6, z7] [] n kd (tDS I m Dr' Sh') (va_up J (m + 29) Am') P) → (((List.range' h (cnt + 1)).any fun h => (List.range' 0 M).all (okf pa H M r w h)) = false → ∀ (Am' : Nat → Int64) (Dr' Sh' : Nat → Int32) (z6 z7 : Option Value), (∀ j, j < p → Am' j = Am j ∧ Dr' j = Dr j ∧ Sh' j = Sh j) → Ru yX10_tells.cls cX10_tells 8 (some .boolean) yX10_tells.name 2 (post) 0 0 236 [some (.ref m), some (.long (jN w0)), none, some (.int (nI n0)), some (.int (-1)), some (.int (nI p)), z6, z7] [] n kd (tDS I m Dr' Sh') (va_up J (m + 29) Am') P) → Ru yX10_tells.cls cX10_tells 8 (some .boolean) yX10_tells.name 2 (post) 0 0 50 [some (.ref m), some (.long (jN w0)), none, some (.int (nI n0)), some (.int (-1)), some (.int (nI p)), z6, z7] [] n kd (tDS I m Dr Sh) (va_up J (m + 29) Am) P := by
  have hT0 := hT
  obtain ⟨hM, hI1, hI2, hPa, hH, hM20, hn0⟩ := hT0
  intro cnt
  induction cnt with
  | zero =>
    intro h Am Dr Sh z6 z7 hv hAm hDr hSh hS hF
    rw [List.range'_succ, List.any_cons, List.range'_zero, List.any_nil, Bool.or_false] at hS hF
    refine ts_shows m H M n0 w0 pa n kd I J P post hT r p w h hp hw (by omega) hN M 0 Am Dr Sh z6 z7 (by omega) hAm hDr hSh hS (fun q Am' Dr' Sh' z6 z7 hs g2 g3 => ?_)
    refine r_iload dX10_tells_184 rfl ?_
    refine r_if_lt (tgt := 242) dX10_tells_186 (by decide) (fun hz => absurd hz (show ¬ _ from (z_nlt (by omega)))) (fun _ => ?_)
    refine r_aload_n dX10_tells_189 rfl ?_
    refine r_getR dX10_tells_190 fl_X10_112 rfl (kM_0 hM) (pM_62 hM) ?_
    refine r_iload dX10_tells_193 rfl ?_
    refine r_dup2 dX10_tells_195 rfl rfl ?_
    refine r_iald dX10_tells_196 (aM_62 hM) (nI_in8 9 (by omega) (by decide)) (nI_clamp (by omega)) ?_
    rw [tDS_30, g3]
    refine r_iconst (v := nI 1) dX10_tells_197 (by decide) ?_
    refine r_iadd dX10_tells_198 ?_
    rw [nI_add]
    refine r_iast dX10_tells_199 (aM_62 hM) (nI_in8 9 (by omega) (by decide)) (nI_clamp (by omega)) ?_
    rw [tDS_30, tDS_p30]
    refine r_aload_n dX10_tells_200 rfl ?_
    refine r_getR dX10_tells_201 fl_X10_115 rfl (kM_0 hM) (pM_63 hM) ?_
    refine r_iload dX10_tells_204 rfl ?_
    refine r_iconst (v := nI 0) dX10_tells_206 (by decide) ?_
    refine r_iast dX10_tells_207 (aM_63 hM) (nI_in8 9 (by omega) (by decide)) (nI_clamp (by omega)) ?_
    rw [tDS_31, tDS_p31]
    refine r_aload_n dX10_tells_208 rfl ?_
    refine r_getR dX10_tells_209 fl_X10_112 rfl (kM_0 hM) (pM_62 hM) ?_
    refine r_iload dX10_tells_212 rfl ?_
    refine r_iald dX10_tells_214 (aM_62 hM) (nI_in8 9 (by omega) (by decide)) (nI_clamp (by omega)) ?_
    rw [tDS_30, am_up_s]
    refine r_aload_n dX10_tells_215 rfl ?_
    refine r_getI dX10_tells_216 fl_X10_350 rfl (kM_0 hM) ?_
    rw [tDS_m, hI1]
    refine r_icmp_ge (tgt := 236) dX10_tells_219 (by decide) (fun _ => ?_) (fun hz => absurd (show _ from (by rw [nI_leI (by omega) (by omega)]; omega)) hz)
    exact hF q _ _ _ _ _ (fun j hj => by rw [am_up_n _ _ (by omega), am_up_n _ _ (by omega)]; exact hs j hj)
  | succ cnt ih =>
    intro h Am Dr Sh z6 z7 hv hAm hDr hSh hS hF
    rw [List.range'_succ, List.any_cons] at hS hF
    refine ts_shows m H M n0 w0 pa n kd I J P post hT r p w h hp hw (by omega) hN M 0 Am Dr Sh z6 z7 (by omega) hAm hDr hSh (fun q => hS (by rw [q]; rfl)) (fun q Am' Dr' Sh' z6 z7 hs g2 g3 => ?_)
    rw [q, Bool.false_or] at hS hF
    refine r_iload dX10_tells_184 rfl ?_
    refine r_if_lt (tgt := 242) dX10_tells_186 (by decide) (fun hz => absurd hz (show ¬ _ from (z_nlt (by omega)))) (fun _ => ?_)
    refine r_aload_n dX10_tells_189 rfl ?_
    refine r_getR dX10_tells_190 fl_X10_112 rfl (kM_0 hM) (pM_62 hM) ?_
    refine r_iload dX10_tells_193 rfl ?_
    refine r_dup2 dX10_tells_195 rfl rfl ?_
    refine r_iald dX10_tells_196 (aM_62 hM) (nI_in8 9 (by omega) (by decide)) (nI_clamp (by omega)) ?_
    rw [tDS_30, g3]
    refine r_iconst (v := nI 1) dX10_tells_197 (by decide) ?_
    refine r_iadd dX10_tells_198 ?_
    rw [nI_add]
    refine r_iast dX10_tells_199 (aM_62 hM) (nI_in8 9 (by omega) (by decide)) (nI_clamp (by omega)) ?_
    rw [tDS_30, tDS_p30]
    refine r_aload_n dX10_tells_200 rfl ?_
    refine r_getR dX10_tells_201 fl_X10_115 rfl (kM_0 hM) (pM_63 hM) ?_
    refine r_iload dX10_tells_204 rfl ?_
    refine r_iconst (v := nI 0) dX10_tells_206 (by decide) ?_
    refine r_iast dX10_tells_207 (aM_63 hM) (nI_in8 9 (by omega) (by decide)) (nI_clamp (by omega)) ?_
    rw [tDS_31, tDS_p31]
    refine r_aload_n dX10_tells_208 rfl ?_
    refine r_getR dX10_tells_209 fl_X10_112 rfl (kM_0 hM) (pM_62 hM) ?_
    refine r_iload dX10_tells_212 rfl ?_
    refine r_iald dX10_tells_214 (aM_62 hM) (nI_in8 9 (by omega) (by decide)) (nI_clamp (by omega)) ?_
    rw [tDS_30, am_up_s]
    refine r_aload_n dX10_tells_215 rfl ?_
    refine r_getI dX10_tells_216 fl_X10_350 rfl (kM_0 hM) ?_
    rw [tDS_m, hI1]
    refine r_icmp_ge (tgt := 236) dX10_tells_219 (by decide) (fun hz => absurd hz (show ¬ _ from (by rw [nI_leI (by omega) (by omega)]; omega))) (fun _ => ?_)
    by_cases hp0 : p = 0
    · subst hp0
      refine r_iload dX10_tells_222 rfl ?_
      refine r_if_gt (tgt := 242) dX10_tells_224 (by decide) (fun hz => absurd hz (show ¬ _ from (by rw [z_gt (by omega)]; omega))) (fun _ => ?_)
      refine r_iload dX10_tells_227 rfl ?_
      refine r_iconst (v := (-1)) dX10_tells_229 (by decide) ?_
      refine r_icmp_ne (tgt := 236) dX10_tells_230 (by decide) (fun hz => absurd (show _ from rfl) hz) (fun _ => ?_)
      refine r_goto (tgt := 242) dX10_tells_233 (by decide) ?_
      refine r_iload dX10_tells_242 rfl ?_
      refine r_if_ge (tgt := 249) dX10_tells_244 (by decide) (fun _ => ?_) (fun hz => absurd (show _ from (z_ge (by omega))) hz)
      refine r_goto (tgt := 50) dX10_tells_249 (by decide) ?_
      refine ih (h + 1) _ _ _ _ _ (by omega) g2 (by rw [am_up_s]) (by rw [am_up_s]) (fun q A2 D2 S2 z6 z7 hs2 => hS q A2 D2 S2 z6 z7 (fun j hj => ?_)) (fun q A2 D2 S2 z6 z7 hs2 => hF q A2 D2 S2 z6 z7 (fun j hj => ?_))
      · have x := hs2 j hj; have y := hs j hj; rw [am_up_n _ _ (by omega), am_up_n _ _ (by omega)] at x; exact ⟨x.1.trans y.1, x.2.1.trans y.2.1, x.2.2.trans y.2.2⟩
      · have x := hs2 j hj; have y := hs j hj; rw [am_up_n _ _ (by omega), am_up_n _ _ (by omega)] at x; exact ⟨x.1.trans y.1, x.2.1.trans y.2.1, x.2.2.trans y.2.2⟩
    · skip
      refine r_iload dX10_tells_222 rfl ?_
      refine r_if_gt (tgt := 242) dX10_tells_224 (by decide) (fun _ => ?_) (fun hz => absurd (show _ from (by rw [z_gt (by omega)]; omega)) hz)
      refine r_iload dX10_tells_242 rfl ?_
      refine r_if_ge (tgt := 249) dX10_tells_244 (by decide) (fun _ => ?_) (fun hz => absurd (show _ from (z_ge (by omega))) hz)
      refine r_goto (tgt := 50) dX10_tells_249 (by decide) ?_
      refine ih (h + 1) _ _ _ _ _ (by omega) g2 (by rw [am_up_s]) (by rw [am_up_s]) (fun q A2 D2 S2 z6 z7 hs2 => hS q A2 D2 S2 z6 z7 (fun j hj => ?_)) (fun q A2 D2 S2 z6 z7 hs2 => hF q A2 D2 S2 z6 z7 (fun j hj => ?_))
      · have x := hs2 j hj; have y := hs j hj; rw [am_up_n _ _ (by omega), am_up_n _ _ (by omega)] at x; exact ⟨x.1.trans y.1, x.2.1.trans y.2.1, x.2.2.trans y.2.2⟩
      · have x := hs2 j hj; have y := hs j hj; rw [am_up_n _ _ (by omega), am_up_n _ _ (by omega)] at x; exact ⟨x.1.trans y.1, x.2.1.trans y.2.1, x.2.2.trans y.2.2⟩

theorem ts_all (m H M n0 w0 : Nat) (pa : Nat → Nat → Nat) (n : Nat) (kd : mK) (I : mI) (J : mJ) (P : mP) (post : am_Post) (hT : tsS m H M n0 w0 pa n kd I J P post) (hH1 : 1 ≤ H) : ∀ (r p : Nat), p + r + 1 = n0 → LBp m H M n0 w0 pa n kd I J P post r p
  | 0, p, hp => fun w Am Dr Sh z6 z7 hw hA hD hS h1 h2 => ts_doors m H M n0 w0 pa n kd I J P post hT 0 p w hp hw (fun _ h => nomatch h) (H - 1) 0 Am Dr Sh z6 z7 (by omega) hA hD hS (by rw [show H - 1 + 1 = H by omega]; exact h1) (by rw [show H - 1 + 1 = H by omega]; exact h2)
  | r + 1, p, hp => fun w Am Dr Sh z6 z7 hw hA hD hS h1 h2 => ts_doors m H M n0 w0 pa n kd I J P post hT (r + 1) p w hp hw (fun r2 h => by rw [show r2 = r by omega]; exact ts_all m H M n0 w0 pa n kd I J P post hT hH1 r (p + 1) (by omega)) (H - 1) 0 Am Dr Sh z6 z7 (by omega) hA hD hS (by rw [show H - 1 + 1 = H by omega]; exact h1) (by rw [show H - 1 + 1 = H by omega]; exact h2)
set_option maxHeartbeats 4000000 in
set_option maxRecDepth 100000 in
theorem c_X10_tells (m H M n0 w0 : Nat) (pa : Nat → Nat → Nat) {n : Nat} {kd : mK} {I : mI} {J : mJ} {P : mP} (hM : kM kd P m) (hI1 : I m 1 = nI H) (hI2 : I m 2 = nI M) (hPa : ∀ h v, h < H → 1 ≤ v → v ≤ M → J (m + 28) (21 * h + v) = jN (pa h v)) (hH : H ≤ 8) (hM20 : M ≤ 20) (hn0 : n0 ≤ 8) (hw : w0 < 2 ^ 40) (hH1 : ¬ one w0 = true → 1 ≤ H) : Ct yX10_tells cX10_tells 8 (some .boolean) 2 0 0 [.ref m, .long (jN w0), .int (nI n0), .int (-1)] n kd I J P (fun y n' kd' I' J' P' => ∃ (Am : Nat → Int64) (Dr Sh : Nat → Int32), am_is (some (.int (bz (tl pa H M n0 w0)))) n kd (tDS I m Dr Sh) (va_up J (m + 29) Am) P y n' kd' I' J' P') := by
  refine ct_of 3 (by decide +kernel) (Nat.le_of_ble_eq_true rfl) rfl ?_
  by_cases ho : one w0 = true
  · have hb : tl pa H M n0 w0 = true := tl_one ho
    rw [hb]
    refine r_lload_n dX10_tells_0 rfl ?_
    refine r_statE (c_X10_isOne w0 hw) lk_X10_451 mc_X10_isOne dX10_tells_1 (by decide) rfl rfl (Nat.le_of_ble_eq_true rfl) ?_
    rw [ho]
    refine r_if_eq (tgt := 9) dX10_tells_4 (by decide) (fun hz => absurd hz (show ¬ _ from (by decide))) (fun _ => ?_)
    refine r_iconst (v := nI 1) dX10_tells_7 (by decide) ?_
    refine r_zret rfl dX10_tells_8 (by first | exact Or.inl rfl | exact Or.inr rfl | assumption) ?_
    exact ⟨J (m + 29), I (m + 30), I (m + 31), by rw [tDS_id, am_up_id]; exact am_is.mk⟩
  · have ho2 : one w0 = false := by simpa using ho
    by_cases hz : n0 = 0
    · subst hz
      have hb : tl pa H M 0 w0 = false := by unfold tl; exact ho2
      rw [hb]
      refine r_lload_n dX10_tells_0 rfl ?_
      refine r_statE (c_X10_isOne w0 hw) lk_X10_451 mc_X10_isOne dX10_tells_1 (by decide) rfl rfl (Nat.le_of_ble_eq_true rfl) ?_
      rw [ho2]
      refine r_if_eq (tgt := 9) dX10_tells_4 (by decide) (fun _ => ?_) (fun hz => absurd (show _ from (by decide)) hz)
      refine r_iload_n dX10_tells_9 rfl ?_
      refine r_if_ne (tgt := 15) dX10_tells_10 (by decide) (fun hz => absurd (show _ from rfl) hz) (fun _ => ?_)
      refine r_iconst (v := nI 0) dX10_tells_13 (by decide) ?_
      refine r_zret rfl dX10_tells_14 (by first | exact Or.inl rfl | exact Or.inr rfl | assumption) ?_
      exact ⟨J (m + 29), I (m + 30), I (m + 31), by rw [tDS_id, am_up_id]; exact am_is.mk⟩
    · obtain ⟨r, rfl⟩ : ∃ r, n0 = r + 1 := ⟨n0 - 1, by omega⟩
      have hb := tl_s pa H M r w0 ho
      have hT : tsS m H M (r + 1) w0 pa n kd I J P (fun y n' kd' I' J' P' => ∃ (Am : Nat → Int64) (Dr Sh : Nat → Int32), am_is (some (.int (bz (tl pa H M (r + 1) w0)))) n kd (tDS I m Dr Sh) (va_up J (m + 29) Am) P y n' kd' I' J' P') := ⟨hM, hI1, hI2, hPa, hH, hM20, hn0⟩
      have hA := ts_all _ _ _ _ _ _ _ _ _ _ _ _ hT (hH1 ho) r 0 (by omega) w0 (va_up (J (m + 29)) 0 (jN w0)) (va_up (I (m + 30)) 0 (nI 0)) (va_up (I (m + 31)) 0 (nI 0)) none none hw (by rw [am_up_s]) (by rw [am_up_s]) (by rw [am_up_s]) (fun q Am Dr Sh z6 z7 _ => by
        rw [← hb] at q
        rw [q]
        refine r_iload dX10_tells_75 rfl ?_
        refine r_if_ne (tgt := 82) dX10_tells_77 (by decide) (fun hz => absurd (show _ from rfl) hz) (fun _ => ?_)
        refine r_iconst (v := nI 1) dX10_tells_80 (by decide) ?_
        refine r_zret rfl dX10_tells_81 (by first | exact Or.inl rfl | exact Or.inr rfl | assumption) ?_
        exact ⟨Am, Dr, Sh, am_is.mk⟩) (fun q Am Dr Sh z6 z7 _ => by
        rw [← hb] at q
        rw [q]
        refine r_iinc (v := (-1)) dX10_tells_236 rfl (by decide) ?_
        refine r_goto (tgt := 184) dX10_tells_239 (by decide) ?_
        refine r_iload dX10_tells_184 rfl ?_
        refine r_if_lt (tgt := 242) dX10_tells_186 (by decide) (fun _ => ?_) (fun hz => absurd (show _ from (by decide)) hz)
        refine r_iload dX10_tells_242 rfl ?_
        refine r_if_ge (tgt := 249) dX10_tells_244 (by decide) (fun hz => absurd hz (show ¬ _ from (by decide))) (fun _ => ?_)
        refine r_iconst (v := nI 0) dX10_tells_247 (by decide) ?_
        refine r_zret rfl dX10_tells_248 (by first | exact Or.inl rfl | exact Or.inr rfl | assumption) ?_
        exact ⟨Am, Dr, Sh, am_is.mk⟩)
      unfold tDS at hA
      refine r_lload_n dX10_tells_0 rfl ?_
      refine r_statE (c_X10_isOne w0 hw) lk_X10_451 mc_X10_isOne dX10_tells_1 (by decide) rfl rfl (Nat.le_of_ble_eq_true rfl) ?_
      rw [ho2]
      refine r_if_eq (tgt := 9) dX10_tells_4 (by decide) (fun _ => ?_) (fun hz => absurd (show _ from (by decide)) hz)
      refine r_iload_n dX10_tells_9 rfl ?_
      refine r_if_ne (tgt := 15) dX10_tells_10 (by decide) (fun _ => ?_) (fun hz => absurd hz (show ¬ _ from (by rw [z_eq (by omega)]; omega)))
      refine r_iconst (v := nI 0) dX10_tells_15 (by decide) ?_
      refine r_istore dX10_tells_16 (by decide) ?_
      refine r_aload_n dX10_tells_18 rfl ?_
      refine r_getR dX10_tells_19 fl_X10_109 rfl (kM_0 hM) (pM_61 hM) ?_
      refine r_iconst (v := nI 0) dX10_tells_22 (by decide) ?_
      refine r_lload_n dX10_tells_23 rfl ?_
      refine r_last dX10_tells_24 (aM_61 hM) (nI_in8 9 (j := 0) (by omega) (by decide)) (nI_clamp (n := 0) (by omega)) ?_
      refine r_aload_n dX10_tells_25 rfl ?_
      refine r_getR dX10_tells_26 fl_X10_112 rfl (kM_0 hM) (pM_62 hM) ?_
      refine r_iconst (v := nI 0) dX10_tells_29 (by decide) ?_
      refine r_iload dX10_tells_30 rfl ?_
      refine r_iconst (v := (-1)) dX10_tells_32 (by decide) ?_
      refine r_icmp_ne (tgt := 40) dX10_tells_33 (by decide) (fun hz => absurd (show _ from rfl) hz) (fun _ => ?_)
      refine r_iconst (v := nI 0) dX10_tells_36 (by decide) ?_
      refine r_goto (tgt := 42) dX10_tells_37 (by decide) ?_
      refine r_iast dX10_tells_42 (aM_62 hM) (nI_in8 9 (j := 0) (by omega) (by decide)) (nI_clamp (n := 0) (by omega)) ?_
      refine r_aload_n dX10_tells_43 rfl ?_
      refine r_getR dX10_tells_44 fl_X10_115 rfl (kM_0 hM) (pM_63 hM) ?_
      refine r_iconst (v := nI 0) dX10_tells_47 (by decide) ?_
      refine r_iconst (v := nI 0) dX10_tells_48 (by decide) ?_
      refine r_iast dX10_tells_49 (aM_63 hM) (nI_in8 9 (j := 0) (by omega) (by decide)) (nI_clamp (n := 0) (by omega)) ?_
      rw [am_up_n _ _ (by omega : m + 31 ≠ m + 30)]
      exact hA


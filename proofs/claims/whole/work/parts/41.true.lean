/-! THE REFERENCE: is a riddle true -/
def rval (c w a : Nat) : Prop := (w = 1 ∧ a = c ∧ c < 10000) ∨ (w = 2 ∧ ((a = 13 ∧ c = 0) ∨ (a = 3 ∧ c = 20000) ∨ (a = 4 ∧ c = 20001) ∨ (a = 5 ∧ c = 20002) ∨ ∃ t, a = t + 14 ∧ c = 10000 + t ∧ t < 1000))
/-- the codes cs stand in the row Cd from k on, in the reference's words -/
def rcs (Cd : Nat → Int32) : List Nat → Nat → Prop
  | [], k => k < 1300 ∧ Cd k = nI 0
  | c :: t, k => k + 1 < 1300 ∧ (if c < 20003 then (∃ w a, rval c w a ∧ Cd k = nI w ∧ Cd (k + 1) = nI a ∧ rcs Cd t (k + 2)) else (Cd k = nI (opw c) ∧ rcs Cd t (k + 1)))
theorem opw_in {c : Nat} (hb : ¬ c = 20003) : 4 ≤ opw c ∧ opw c < 12 := by
  unfold opw
  rw [if_neg hb]
  by_cases h1 : c = 20004 <;> by_cases h2 : c = 20005 <;> by_cases h3 : c = 20006 <;> by_cases h4 : c = 20007 <;> by_cases h5 : c = 20008 <;> by_cases h6 : c = 20009 <;> by_cases h7 : c = 20010 <;> simp [h1, h2, h3, h4, h5, h6, h7]
def opdR (I : mI) (m h H : Nat) (c : Nat) : Int32 := if c < 20000 then (if c - 10000 < H then I (m + 25) (c - 10000) else nI 0) else if c = 20002 then I m 2 else if c = 20000 then I (m + 1) h else I (m + 2) h
theorem dX10_isTrue_0 : decode cX10_isTrue 0 = .ok (.iload_n 1, 1) := by decide +kernel
theorem dX10_isTrue_1 : decode cX10_isTrue 1 = .ok (.aload_n 0, 1) := by decide +kernel
theorem dX10_isTrue_2 : decode cX10_isTrue 2 = .ok (.getfield 99, 3) := by decide +kernel
theorem dX10_isTrue_5 : decode cX10_isTrue 5 = .ok (.if_icmp .ne 71, 3) := by decide +kernel
theorem dX10_isTrue_8 : decode cX10_isTrue 8 = .ok (.aload_n 0, 1) := by decide +kernel
theorem dX10_isTrue_9 : decode cX10_isTrue 9 = .ok (.getfield 90, 3) := by decide +kernel
theorem dX10_isTrue_12 : decode cX10_isTrue 12 = .ok (.iload_n 1, 1) := by decide +kernel
theorem dX10_isTrue_13 : decode cX10_isTrue 13 = .ok (.iaload, 1) := by decide +kernel
theorem dX10_isTrue_14 : decode cX10_isTrue 14 = .ok (.aload_n 0, 1) := by decide +kernel
theorem dX10_isTrue_15 : decode cX10_isTrue 15 = .ok (.getfield 393, 3) := by decide +kernel
theorem dX10_isTrue_18 : decode cX10_isTrue 18 = .ok (.ifCond .ne 10, 3) := by decide +kernel
theorem dX10_isTrue_21 : decode cX10_isTrue 21 = .ok (.aload_n 0, 1) := by decide +kernel
theorem dX10_isTrue_22 : decode cX10_isTrue 22 = .ok (.getfield 396, 3) := by decide +kernel
theorem dX10_isTrue_25 : decode cX10_isTrue 25 = .ok (.goto 42, 3) := by decide +kernel
theorem dX10_isTrue_28 : decode cX10_isTrue 28 = .ok (.aload_n 0, 1) := by decide +kernel
theorem dX10_isTrue_29 : decode cX10_isTrue 29 = .ok (.getfield 393, 3) := by decide +kernel
theorem dX10_isTrue_32 : decode cX10_isTrue 32 = .ok (.iconst 1, 1) := by decide +kernel
theorem dX10_isTrue_33 : decode cX10_isTrue 33 = .ok (.if_icmp .ne 20, 3) := by decide +kernel
theorem dX10_isTrue_36 : decode cX10_isTrue 36 = .ok (.aload_n 0, 1) := by decide +kernel
theorem dX10_isTrue_37 : decode cX10_isTrue 37 = .ok (.getfield 90, 3) := by decide +kernel
theorem dX10_isTrue_40 : decode cX10_isTrue 40 = .ok (.aload_n 0, 1) := by decide +kernel
theorem dX10_isTrue_41 : decode cX10_isTrue 41 = .ok (.getfield 399, 3) := by decide +kernel
theorem dX10_isTrue_44 : decode cX10_isTrue 44 = .ok (.iaload, 1) := by decide +kernel
theorem dX10_isTrue_45 : decode cX10_isTrue 45 = .ok (.aload_n 0, 1) := by decide +kernel
theorem dX10_isTrue_46 : decode cX10_isTrue 46 = .ok (.getfield 396, 3) := by decide +kernel
theorem dX10_isTrue_49 : decode cX10_isTrue 49 = .ok (.iadd, 1) := by decide +kernel
theorem dX10_isTrue_50 : decode cX10_isTrue 50 = .ok (.goto 17, 3) := by decide +kernel
theorem dX10_isTrue_53 : decode cX10_isTrue 53 = .ok (.aload_n 0, 1) := by decide +kernel
theorem dX10_isTrue_54 : decode cX10_isTrue 54 = .ok (.getfield 396, 3) := by decide +kernel
theorem dX10_isTrue_57 : decode cX10_isTrue 57 = .ok (.aload_n 0, 1) := by decide +kernel
theorem dX10_isTrue_58 : decode cX10_isTrue 58 = .ok (.getfield 90, 3) := by decide +kernel
theorem dX10_isTrue_61 : decode cX10_isTrue 61 = .ok (.aload_n 0, 1) := by decide +kernel
theorem dX10_isTrue_62 : decode cX10_isTrue 62 = .ok (.getfield 399, 3) := by decide +kernel
theorem dX10_isTrue_65 : decode cX10_isTrue 65 = .ok (.iaload, 1) := by decide +kernel
theorem dX10_isTrue_66 : decode cX10_isTrue 66 = .ok (.imul, 1) := by decide +kernel
theorem dX10_isTrue_67 : decode cX10_isTrue 67 = .ok (.if_icmp .ne 7, 3) := by decide +kernel
theorem dX10_isTrue_70 : decode cX10_isTrue 70 = .ok (.iconst 1, 1) := by decide +kernel
theorem dX10_isTrue_71 : decode cX10_isTrue 71 = .ok (.goto 4, 3) := by decide +kernel
theorem dX10_isTrue_74 : decode cX10_isTrue 74 = .ok (.iconst 0, 1) := by decide +kernel
theorem dX10_isTrue_75 : decode cX10_isTrue 75 = .ok (.ireturn, 1) := by decide +kernel
theorem dX10_isTrue_76 : decode cX10_isTrue 76 = .ok (.iconst 0, 1) := by decide +kernel
theorem dX10_isTrue_77 : decode cX10_isTrue 77 = .ok (.istore_n 2, 1) := by decide +kernel
theorem dX10_isTrue_78 : decode cX10_isTrue 78 = .ok (.aload_n 0, 1) := by decide +kernel
theorem dX10_isTrue_79 : decode cX10_isTrue 79 = .ok (.getfield 26, 3) := by decide +kernel
theorem dX10_isTrue_82 : decode cX10_isTrue 82 = .ok (.iload_n 1, 1) := by decide +kernel
theorem dX10_isTrue_83 : decode cX10_isTrue 83 = .ok (.iaload, 1) := by decide +kernel
theorem dX10_isTrue_84 : decode cX10_isTrue 84 = .ok (.istore_n 3, 1) := by decide +kernel
theorem dX10_isTrue_85 : decode cX10_isTrue 85 = .ok (.aload_n 0, 1) := by decide +kernel
theorem dX10_isTrue_86 : decode cX10_isTrue 86 = .ok (.getfield 32, 3) := by decide +kernel
theorem dX10_isTrue_89 : decode cX10_isTrue 89 = .ok (.iload_n 3, 1) := by decide +kernel
theorem dX10_isTrue_90 : decode cX10_isTrue 90 = .ok (.iaload, 1) := by decide +kernel
theorem dX10_isTrue_91 : decode cX10_isTrue 91 = .ok (.ifCond .eq 133, 3) := by decide +kernel
theorem dX10_isTrue_94 : decode cX10_isTrue 94 = .ok (.aload_n 0, 1) := by decide +kernel
theorem dX10_isTrue_95 : decode cX10_isTrue 95 = .ok (.getfield 32, 3) := by decide +kernel
theorem dX10_isTrue_98 : decode cX10_isTrue 98 = .ok (.iload_n 3, 1) := by decide +kernel
theorem dX10_isTrue_99 : decode cX10_isTrue 99 = .ok (.iaload, 1) := by decide +kernel
theorem dX10_isTrue_100 : decode cX10_isTrue 100 = .ok (.istore 4, 2) := by decide +kernel
theorem dX10_isTrue_102 : decode cX10_isTrue 102 = .ok (.iinc 3 1, 3) := by decide +kernel
theorem dX10_isTrue_105 : decode cX10_isTrue 105 = .ok (.iload 4, 2) := by decide +kernel
theorem dX10_isTrue_107 : decode cX10_isTrue 107 = .ok (.iconst 1, 1) := by decide +kernel
theorem dX10_isTrue_108 : decode cX10_isTrue 108 = .ok (.if_icmp .eq 9, 3) := by decide +kernel
theorem dX10_isTrue_111 : decode cX10_isTrue 111 = .ok (.iload 4, 2) := by decide +kernel
theorem dX10_isTrue_113 : decode cX10_isTrue 113 = .ok (.iconst 2, 1) := by decide +kernel
theorem dX10_isTrue_114 : decode cX10_isTrue 114 = .ok (.if_icmp .ne 44, 3) := by decide +kernel
theorem dX10_isTrue_117 : decode cX10_isTrue 117 = .ok (.aload_n 0, 1) := by decide +kernel
theorem dX10_isTrue_118 : decode cX10_isTrue 118 = .ok (.getfield 93, 3) := by decide +kernel
theorem dX10_isTrue_121 : decode cX10_isTrue 121 = .ok (.iload_n 2, 1) := by decide +kernel
theorem dX10_isTrue_122 : decode cX10_isTrue 122 = .ok (.iload 4, 2) := by decide +kernel
theorem dX10_isTrue_124 : decode cX10_isTrue 124 = .ok (.iconst 1, 1) := by decide +kernel
theorem dX10_isTrue_125 : decode cX10_isTrue 125 = .ok (.if_icmp .ne 12, 3) := by decide +kernel
theorem dX10_isTrue_128 : decode cX10_isTrue 128 = .ok (.aload_n 0, 1) := by decide +kernel
theorem dX10_isTrue_129 : decode cX10_isTrue 129 = .ok (.getfield 32, 3) := by decide +kernel
theorem dX10_isTrue_132 : decode cX10_isTrue 132 = .ok (.iload_n 3, 1) := by decide +kernel
theorem dX10_isTrue_133 : decode cX10_isTrue 133 = .ok (.iaload, 1) := by decide +kernel
theorem dX10_isTrue_134 : decode cX10_isTrue 134 = .ok (.goto 14, 3) := by decide +kernel
theorem dX10_isTrue_137 : decode cX10_isTrue 137 = .ok (.aload_n 0, 1) := by decide +kernel
theorem dX10_isTrue_138 : decode cX10_isTrue 138 = .ok (.aload_n 0, 1) := by decide +kernel
theorem dX10_isTrue_139 : decode cX10_isTrue 139 = .ok (.getfield 32, 3) := by decide +kernel
theorem dX10_isTrue_142 : decode cX10_isTrue 142 = .ok (.iload_n 3, 1) := by decide +kernel
theorem dX10_isTrue_143 : decode cX10_isTrue 143 = .ok (.iaload, 1) := by decide +kernel
theorem dX10_isTrue_144 : decode cX10_isTrue 144 = .ok (.iload_n 1, 1) := by decide +kernel
theorem dX10_isTrue_145 : decode cX10_isTrue 145 = .ok (.invokevirtual 402, 3) := by decide +kernel
theorem dX10_isTrue_148 : decode cX10_isTrue 148 = .ok (.iastore, 1) := by decide +kernel
theorem dX10_isTrue_149 : decode cX10_isTrue 149 = .ok (.iinc 3 1, 3) := by decide +kernel
theorem dX10_isTrue_152 : decode cX10_isTrue 152 = .ok (.iinc 2 1, 3) := by decide +kernel
theorem dX10_isTrue_155 : decode cX10_isTrue 155 = .ok (.goto 66, 3) := by decide +kernel
theorem dX10_isTrue_158 : decode cX10_isTrue 158 = .ok (.iload 4, 2) := by decide +kernel
theorem dX10_isTrue_160 : decode cX10_isTrue 160 = .ok (.iconst 3, 1) := by decide +kernel
theorem dX10_isTrue_161 : decode cX10_isTrue 161 = .ok (.if_icmp .ne 30, 3) := by decide +kernel
theorem dX10_isTrue_164 : decode cX10_isTrue 164 = .ok (.aload_n 0, 1) := by decide +kernel
theorem dX10_isTrue_165 : decode cX10_isTrue 165 = .ok (.getfield 93, 3) := by decide +kernel
theorem dX10_isTrue_168 : decode cX10_isTrue 168 = .ok (.iload_n 2, 1) := by decide +kernel
theorem dX10_isTrue_169 : decode cX10_isTrue 169 = .ok (.iconst 1, 1) := by decide +kernel
theorem dX10_isTrue_170 : decode cX10_isTrue 170 = .ok (.isub, 1) := by decide +kernel
theorem dX10_isTrue_171 : decode cX10_isTrue 171 = .ok (.aload_n 0, 1) := by decide +kernel
theorem dX10_isTrue_172 : decode cX10_isTrue 172 = .ok (.getfield 93, 3) := by decide +kernel
theorem dX10_isTrue_175 : decode cX10_isTrue 175 = .ok (.iload_n 2, 1) := by decide +kernel
theorem dX10_isTrue_176 : decode cX10_isTrue 176 = .ok (.iconst 1, 1) := by decide +kernel
theorem dX10_isTrue_177 : decode cX10_isTrue 177 = .ok (.isub, 1) := by decide +kernel
theorem dX10_isTrue_178 : decode cX10_isTrue 178 = .ok (.iaload, 1) := by decide +kernel
theorem dX10_isTrue_179 : decode cX10_isTrue 179 = .ok (.ifCond .ne 7, 3) := by decide +kernel
theorem dX10_isTrue_182 : decode cX10_isTrue 182 = .ok (.iconst 1, 1) := by decide +kernel
theorem dX10_isTrue_183 : decode cX10_isTrue 183 = .ok (.goto 4, 3) := by decide +kernel
theorem dX10_isTrue_186 : decode cX10_isTrue 186 = .ok (.iconst 0, 1) := by decide +kernel
theorem dX10_isTrue_187 : decode cX10_isTrue 187 = .ok (.iastore, 1) := by decide +kernel
theorem dX10_isTrue_188 : decode cX10_isTrue 188 = .ok (.goto 33, 3) := by decide +kernel
theorem dX10_isTrue_191 : decode cX10_isTrue 191 = .ok (.iinc 2 (-1), 3) := by decide +kernel
theorem dX10_isTrue_194 : decode cX10_isTrue 194 = .ok (.aload_n 0, 1) := by decide +kernel
theorem dX10_isTrue_195 : decode cX10_isTrue 195 = .ok (.getfield 93, 3) := by decide +kernel
theorem dX10_isTrue_198 : decode cX10_isTrue 198 = .ok (.iload_n 2, 1) := by decide +kernel
theorem dX10_isTrue_199 : decode cX10_isTrue 199 = .ok (.iconst 1, 1) := by decide +kernel
theorem dX10_isTrue_200 : decode cX10_isTrue 200 = .ok (.isub, 1) := by decide +kernel
theorem dX10_isTrue_201 : decode cX10_isTrue 201 = .ok (.iload 4, 2) := by decide +kernel
theorem dX10_isTrue_203 : decode cX10_isTrue 203 = .ok (.aload_n 0, 1) := by decide +kernel
theorem dX10_isTrue_204 : decode cX10_isTrue 204 = .ok (.getfield 93, 3) := by decide +kernel
theorem dX10_isTrue_207 : decode cX10_isTrue 207 = .ok (.iload_n 2, 1) := by decide +kernel
theorem dX10_isTrue_208 : decode cX10_isTrue 208 = .ok (.iconst 1, 1) := by decide +kernel
theorem dX10_isTrue_209 : decode cX10_isTrue 209 = .ok (.isub, 1) := by decide +kernel
theorem dX10_isTrue_210 : decode cX10_isTrue 210 = .ok (.iaload, 1) := by decide +kernel
theorem dX10_isTrue_211 : decode cX10_isTrue 211 = .ok (.aload_n 0, 1) := by decide +kernel
theorem dX10_isTrue_212 : decode cX10_isTrue 212 = .ok (.getfield 93, 3) := by decide +kernel
theorem dX10_isTrue_215 : decode cX10_isTrue 215 = .ok (.iload_n 2, 1) := by decide +kernel
theorem dX10_isTrue_216 : decode cX10_isTrue 216 = .ok (.iaload, 1) := by decide +kernel
theorem dX10_isTrue_217 : decode cX10_isTrue 217 = .ok (.invokestatic 405, 3) := by decide +kernel
theorem dX10_isTrue_220 : decode cX10_isTrue 220 = .ok (.iastore, 1) := by decide +kernel
theorem dX10_isTrue_221 : decode cX10_isTrue 221 = .ok (.goto (-136), 3) := by decide +kernel
theorem dX10_isTrue_224 : decode cX10_isTrue 224 = .ok (.aload_n 0, 1) := by decide +kernel
theorem dX10_isTrue_225 : decode cX10_isTrue 225 = .ok (.getfield 93, 3) := by decide +kernel
theorem dX10_isTrue_228 : decode cX10_isTrue 228 = .ok (.iconst 0, 1) := by decide +kernel
theorem dX10_isTrue_229 : decode cX10_isTrue 229 = .ok (.iaload, 1) := by decide +kernel
theorem dX10_isTrue_230 : decode cX10_isTrue 230 = .ok (.ifCond .eq 7, 3) := by decide +kernel
theorem dX10_isTrue_233 : decode cX10_isTrue 233 = .ok (.iconst 1, 1) := by decide +kernel
theorem dX10_isTrue_234 : decode cX10_isTrue 234 = .ok (.goto 4, 3) := by decide +kernel
theorem dX10_isTrue_237 : decode cX10_isTrue 237 = .ok (.iconst 0, 1) := by decide +kernel
theorem dX10_isTrue_238 : decode cX10_isTrue 238 = .ok (.ireturn, 1) := by decide +kernel

set_option maxHeartbeats 4000000 in
set_option maxRecDepth 100000 in
theorem w_X10_isTrue (m h H : Nat) {n : Nat} {kd : mK} {I : mI} {J : mJ} {P : mP} (hM : kM kd P m) (hh : h < H) (hH8 : H ≤ 8) (hH : I m 1 = nI H) : ∀ (cs : List Nat) {st : List Int32} {R : Nat → Int32} {k : Nat} {x4 : Option Value}, sr R st → rcs (I (m + 7)) cs k → okd cs st.length → st.length ≤ 40 → Ru yX10_isTrue.cls cX10_isTrue 5 (some .boolean) yX10_isTrue.name 2 (am_sc (some (.int (bz (!decide (lastI (evs (opdR I m h H) cs st) = 0))))) (m + 26) n kd I J P) 0 0 85 [some (.ref m), some (.int (nI h)), some (.int (nI st.length)), some (.int (nI k)), x4] [] n kd (va_up I (m + 26) R) J P := by
  intro cs
  induction cs with
  | nil =>
    intro st R k x4 hsr hk hok h40
    have hne : st ≠ [] := by intro e; subst e; exact absurd hok (by simp [okd])
    rw [evs]
    have hk1 := hk.1
    by_cases hz0 : lastI st = 0
    · skip
      refine r_aload_n dX10_isTrue_85 rfl ?_
      refine r_getR dX10_isTrue_86 fl_X10_32 rfl (kM_0 hM) (pM_10 hM) ?_
      refine r_iload_n dX10_isTrue_89 rfl ?_
      refine r_iald dX10_isTrue_90 (aM_10 hM) (nI_in8 1300 (by omega) (by decide)) (nI_clamp (by omega)) ?_
      rw [am_up_n I R (by omega : m + 7 ≠ m + 26), hk.2]
      refine r_if_eq (tgt := 224) dX10_isTrue_91 (by decide) (fun _ => ?_) (fun hz => absurd (show _ from rfl) hz)
      refine r_aload_n dX10_isTrue_224 rfl ?_
      refine r_getR dX10_isTrue_225 fl_X10_93 rfl (kM_0 hM) (pM_50 hM) ?_
      refine r_iconst (v := nI 0) dX10_isTrue_228 (by decide) ?_
      refine r_iald dX10_isTrue_229 (aM_50 hM) (nI_in8 650 (by omega) (by decide)) (nI_clamp (by omega)) ?_
      rw [am_up_s I, sr_0 hne hsr]
      refine r_if_eq (tgt := 237) dX10_isTrue_230 (by decide) (fun _ => ?_) (fun hz => absurd (show _ from hz0) hz)
      refine r_iconst (v := nI 0) dX10_isTrue_237 (by decide) ?_
      refine r_zret rfl dX10_isTrue_238 (by first | exact Or.inl rfl | exact Or.inr rfl | assumption) ?_
      exact ⟨R, by rw [decide_eq_true hz0]; rfl, rfl, rfl, rfl, rfl, rfl⟩
    · skip
      refine r_aload_n dX10_isTrue_85 rfl ?_
      refine r_getR dX10_isTrue_86 fl_X10_32 rfl (kM_0 hM) (pM_10 hM) ?_
      refine r_iload_n dX10_isTrue_89 rfl ?_
      refine r_iald dX10_isTrue_90 (aM_10 hM) (nI_in8 1300 (by omega) (by decide)) (nI_clamp (by omega)) ?_
      rw [am_up_n I R (by omega : m + 7 ≠ m + 26), hk.2]
      refine r_if_eq (tgt := 224) dX10_isTrue_91 (by decide) (fun _ => ?_) (fun hz => absurd (show _ from rfl) hz)
      refine r_aload_n dX10_isTrue_224 rfl ?_
      refine r_getR dX10_isTrue_225 fl_X10_93 rfl (kM_0 hM) (pM_50 hM) ?_
      refine r_iconst (v := nI 0) dX10_isTrue_228 (by decide) ?_
      refine r_iald dX10_isTrue_229 (aM_50 hM) (nI_in8 650 (by omega) (by decide)) (nI_clamp (by omega)) ?_
      rw [am_up_s I, sr_0 hne hsr]
      refine r_if_eq (tgt := 237) dX10_isTrue_230 (by decide) (fun hz => absurd hz (show ¬ _ from hz0)) (fun _ => ?_)
      refine r_iconst (v := nI 1) dX10_isTrue_233 (by decide) ?_
      refine r_goto (tgt := 238) dX10_isTrue_234 (by decide) ?_
      refine r_zret rfl dX10_isTrue_238 (by first | exact Or.inl rfl | exact Or.inr rfl | assumption) ?_
      exact ⟨R, by rw [decide_eq_false hz0]; rfl, rfl, rfl, rfl, rfl, rfl⟩
  | cons c cs ih =>
    intro st R k x4 hsr hk hok h40
    obtain ⟨hk1, hk2⟩ := hk
    by_cases ha : c < 20003
    · have hd40 : st.length < 40 := by have := hok.1; rwa [if_pos ha] at this
      rw [if_pos ha] at hk2
      obtain ⟨w, a, hv, hw, ha1, hrest⟩ := hk2
      rcases hv with ⟨rfl, rfl, hlt⟩ | ⟨rfl, ⟨rfl, rfl⟩ | ⟨rfl, rfl⟩ | ⟨rfl, rfl⟩ | ⟨rfl, rfl⟩ | ⟨t, rfl, rfl, ht3⟩⟩
      · skip
        refine r_aload_n dX10_isTrue_85 rfl ?_
        refine r_getR dX10_isTrue_86 fl_X10_32 rfl (kM_0 hM) (pM_10 hM) ?_
        refine r_iload_n dX10_isTrue_89 rfl ?_
        refine r_iald dX10_isTrue_90 (aM_10 hM) (nI_in8 1300 (by omega) (by decide)) (nI_clamp (by omega)) ?_
        rw [am_up_n I R (by omega : m + 7 ≠ m + 26), hw]
        refine r_if_eq (tgt := 224) dX10_isTrue_91 (by decide) (fun hz => absurd hz (show ¬ _ from (by decide))) (fun _ => ?_)
        refine r_aload_n dX10_isTrue_94 rfl ?_
        refine r_getR dX10_isTrue_95 fl_X10_32 rfl (kM_0 hM) (pM_10 hM) ?_
        refine r_iload_n dX10_isTrue_98 rfl ?_
        refine r_iald dX10_isTrue_99 (aM_10 hM) (nI_in8 1300 (by omega) (by decide)) (nI_clamp (by omega)) ?_
        rw [am_up_n I R (by omega : m + 7 ≠ m + 26), hw]
        refine r_istore dX10_isTrue_100 (by decide) ?_
        refine r_iinc (v := nI (k + 1)) dX10_isTrue_102 rfl (nI_inc k) ?_
        refine r_iload dX10_isTrue_105 rfl ?_
        refine r_iconst (v := nI 1) dX10_isTrue_107 (by decide) ?_
        refine r_icmp_eq (tgt := 117) dX10_isTrue_108 (by decide) (fun _ => ?_) (fun hz => absurd (show _ from rfl) hz)
        refine r_aload_n dX10_isTrue_117 rfl ?_
        refine r_getR dX10_isTrue_118 fl_X10_93 rfl (kM_0 hM) (pM_50 hM) ?_
        refine r_iload_n dX10_isTrue_121 rfl ?_
        refine r_iload dX10_isTrue_122 rfl ?_
        refine r_iconst (v := nI 1) dX10_isTrue_124 (by decide) ?_
        refine r_icmp_ne (tgt := 137) dX10_isTrue_125 (by decide) (fun hz => absurd (show _ from rfl) hz) (fun _ => ?_)
        refine r_aload_n dX10_isTrue_128 rfl ?_
        refine r_getR dX10_isTrue_129 fl_X10_32 rfl (kM_0 hM) (pM_10 hM) ?_
        refine r_iload_n dX10_isTrue_132 rfl ?_
        refine r_iald dX10_isTrue_133 (aM_10 hM) (nI_in8 1300 (by omega) (by decide)) (nI_clamp (by omega)) ?_
        rw [am_up_n I R (by omega : m + 7 ≠ m + 26), ha1]
        refine r_goto (tgt := 148) dX10_isTrue_134 (by decide) ?_
        refine r_iast dX10_isTrue_148 (aM_50 hM) (nI_in8 650 (by (try simp at h40); omega) (by decide)) (nI_clamp (by (try simp at h40); omega)) ?_
        rw [am_up_s I, am_up_up I]
        refine r_iinc (v := nI (k + 2)) dX10_isTrue_149 rfl (nI_inc (k + 1)) ?_
        refine r_iinc (v := nI (st.length + 1)) dX10_isTrue_152 rfl (nI_inc st.length) ?_
        refine r_goto (tgt := 221) dX10_isTrue_155 (by decide) ?_
        refine r_goto (tgt := 85) dX10_isTrue_221 (by decide) ?_
        have hgo := ih (k := k + 2) (R := va_up R st.length (nI a)) (x4 := some (.int (nI 1))) (st := nI a :: st) (sr_push _ hsr) hrest (by have := hok.2; rwa [show dep1 a st.length = st.length + 1 by unfold dep1; rw [if_pos ha]] at this) (by simp; omega)
        rw [evs, show ev1 (opdR I m h H) a st = nI a :: st by unfold ev1; rw [if_pos ha, if_pos hlt]]
        exact hgo
      · skip
        refine r_aload_n dX10_isTrue_85 rfl ?_
        refine r_getR dX10_isTrue_86 fl_X10_32 rfl (kM_0 hM) (pM_10 hM) ?_
        refine r_iload_n dX10_isTrue_89 rfl ?_
        refine r_iald dX10_isTrue_90 (aM_10 hM) (nI_in8 1300 (by omega) (by decide)) (nI_clamp (by omega)) ?_
        rw [am_up_n I R (by omega : m + 7 ≠ m + 26), hw]
        refine r_if_eq (tgt := 224) dX10_isTrue_91 (by decide) (fun hz => absurd hz (show ¬ _ from (by decide))) (fun _ => ?_)
        refine r_aload_n dX10_isTrue_94 rfl ?_
        refine r_getR dX10_isTrue_95 fl_X10_32 rfl (kM_0 hM) (pM_10 hM) ?_
        refine r_iload_n dX10_isTrue_98 rfl ?_
        refine r_iald dX10_isTrue_99 (aM_10 hM) (nI_in8 1300 (by omega) (by decide)) (nI_clamp (by omega)) ?_
        rw [am_up_n I R (by omega : m + 7 ≠ m + 26), hw]
        refine r_istore dX10_isTrue_100 (by decide) ?_
        refine r_iinc (v := nI (k + 1)) dX10_isTrue_102 rfl (nI_inc k) ?_
        refine r_iload dX10_isTrue_105 rfl ?_
        refine r_iconst (v := nI 1) dX10_isTrue_107 (by decide) ?_
        refine r_icmp_eq (tgt := 117) dX10_isTrue_108 (by decide) (fun hz => absurd hz (show ¬ _ from (by decide))) (fun _ => ?_)
        refine r_iload dX10_isTrue_111 rfl ?_
        refine r_iconst (v := nI 2) dX10_isTrue_113 (by decide) ?_
        refine r_icmp_ne (tgt := 158) dX10_isTrue_114 (by decide) (fun hz => absurd (show _ from rfl) hz) (fun _ => ?_)
        refine r_aload_n dX10_isTrue_117 rfl ?_
        refine r_getR dX10_isTrue_118 fl_X10_93 rfl (kM_0 hM) (pM_50 hM) ?_
        refine r_iload_n dX10_isTrue_121 rfl ?_
        refine r_iload dX10_isTrue_122 rfl ?_
        refine r_iconst (v := nI 1) dX10_isTrue_124 (by decide) ?_
        refine r_icmp_ne (tgt := 137) dX10_isTrue_125 (by decide) (fun _ => ?_) (fun hz => absurd hz (show ¬ _ from (by decide)))
        refine r_aload_n dX10_isTrue_137 rfl ?_
        refine r_aload_n dX10_isTrue_138 rfl ?_
        refine r_getR dX10_isTrue_139 fl_X10_32 rfl (kM_0 hM) (pM_10 hM) ?_
        refine r_iload_n dX10_isTrue_142 rfl ?_
        refine r_iald dX10_isTrue_143 (aM_10 hM) (nI_in8 1300 (by omega) (by decide)) (nI_clamp (by omega)) ?_
        rw [am_up_n I R (by omega : m + 7 ≠ m + 26), ha1]
        refine r_iload_n dX10_isTrue_144 rfl ?_
        refine r_virtE (c_X10_valueOf_before m h H 0 hM (by omega) (by rw [am_up_n I R (by omega : m ≠ m + 26)]; exact hH) hH8) lk_X10_402 mc_X10_valueOf dX10_isTrue_145 (kM_0 hM) (by decide) rfl rfl (Nat.le_of_ble_eq_true rfl) ?_
        try simp (disch := omega) only [am_up_s, am_up_n]
        refine r_iast dX10_isTrue_148 (aM_50 hM) (nI_in8 650 (by (try simp at h40); omega) (by decide)) (nI_clamp (by (try simp at h40); omega)) ?_
        rw [am_up_s I, am_up_up I]
        refine r_iinc (v := nI (k + 2)) dX10_isTrue_149 rfl (nI_inc (k + 1)) ?_
        refine r_iinc (v := nI (st.length + 1)) dX10_isTrue_152 rfl (nI_inc st.length) ?_
        refine r_goto (tgt := 221) dX10_isTrue_155 (by decide) ?_
        refine r_goto (tgt := 85) dX10_isTrue_221 (by decide) ?_
        have hgo := ih (k := k + 2) (R := va_up R st.length (nI 0)) (x4 := some (.int (nI 2))) (st := nI 0 :: st) (sr_push _ hsr) hrest (by have := hok.2; rwa [show dep1 0 st.length = st.length + 1 by unfold dep1; rw [if_pos ha]] at this) (by simp; omega)
        rw [evs, show ev1 (opdR I m h H) 0 st = nI 0 :: st by unfold ev1; rfl]
        exact hgo
      · skip
        refine r_aload_n dX10_isTrue_85 rfl ?_
        refine r_getR dX10_isTrue_86 fl_X10_32 rfl (kM_0 hM) (pM_10 hM) ?_
        refine r_iload_n dX10_isTrue_89 rfl ?_
        refine r_iald dX10_isTrue_90 (aM_10 hM) (nI_in8 1300 (by omega) (by decide)) (nI_clamp (by omega)) ?_
        rw [am_up_n I R (by omega : m + 7 ≠ m + 26), hw]
        refine r_if_eq (tgt := 224) dX10_isTrue_91 (by decide) (fun hz => absurd hz (show ¬ _ from (by decide))) (fun _ => ?_)
        refine r_aload_n dX10_isTrue_94 rfl ?_
        refine r_getR dX10_isTrue_95 fl_X10_32 rfl (kM_0 hM) (pM_10 hM) ?_
        refine r_iload_n dX10_isTrue_98 rfl ?_
        refine r_iald dX10_isTrue_99 (aM_10 hM) (nI_in8 1300 (by omega) (by decide)) (nI_clamp (by omega)) ?_
        rw [am_up_n I R (by omega : m + 7 ≠ m + 26), hw]
        refine r_istore dX10_isTrue_100 (by decide) ?_
        refine r_iinc (v := nI (k + 1)) dX10_isTrue_102 rfl (nI_inc k) ?_
        refine r_iload dX10_isTrue_105 rfl ?_
        refine r_iconst (v := nI 1) dX10_isTrue_107 (by decide) ?_
        refine r_icmp_eq (tgt := 117) dX10_isTrue_108 (by decide) (fun hz => absurd hz (show ¬ _ from (by decide))) (fun _ => ?_)
        refine r_iload dX10_isTrue_111 rfl ?_
        refine r_iconst (v := nI 2) dX10_isTrue_113 (by decide) ?_
        refine r_icmp_ne (tgt := 158) dX10_isTrue_114 (by decide) (fun hz => absurd (show _ from rfl) hz) (fun _ => ?_)
        refine r_aload_n dX10_isTrue_117 rfl ?_
        refine r_getR dX10_isTrue_118 fl_X10_93 rfl (kM_0 hM) (pM_50 hM) ?_
        refine r_iload_n dX10_isTrue_121 rfl ?_
        refine r_iload dX10_isTrue_122 rfl ?_
        refine r_iconst (v := nI 1) dX10_isTrue_124 (by decide) ?_
        refine r_icmp_ne (tgt := 137) dX10_isTrue_125 (by decide) (fun _ => ?_) (fun hz => absurd hz (show ¬ _ from (by decide)))
        refine r_aload_n dX10_isTrue_137 rfl ?_
        refine r_aload_n dX10_isTrue_138 rfl ?_
        refine r_getR dX10_isTrue_139 fl_X10_32 rfl (kM_0 hM) (pM_10 hM) ?_
        refine r_iload_n dX10_isTrue_142 rfl ?_
        refine r_iald dX10_isTrue_143 (aM_10 hM) (nI_in8 1300 (by omega) (by decide)) (nI_clamp (by omega)) ?_
        rw [am_up_n I R (by omega : m + 7 ≠ m + 26), ha1]
        refine r_iload_n dX10_isTrue_144 rfl ?_
        refine r_virtE (c_X10_valueOf_sons m h H 0 hM (by omega) (by rw [am_up_n I R (by omega : m ≠ m + 26)]; exact hH) hH8) lk_X10_402 mc_X10_valueOf dX10_isTrue_145 (kM_0 hM) (by decide) rfl rfl (Nat.le_of_ble_eq_true rfl) ?_
        try simp (disch := omega) only [am_up_s, am_up_n]
        refine r_iast dX10_isTrue_148 (aM_50 hM) (nI_in8 650 (by (try simp at h40); omega) (by decide)) (nI_clamp (by (try simp at h40); omega)) ?_
        rw [am_up_s I, am_up_up I]
        refine r_iinc (v := nI (k + 2)) dX10_isTrue_149 rfl (nI_inc (k + 1)) ?_
        refine r_iinc (v := nI (st.length + 1)) dX10_isTrue_152 rfl (nI_inc st.length) ?_
        refine r_goto (tgt := 221) dX10_isTrue_155 (by decide) ?_
        refine r_goto (tgt := 85) dX10_isTrue_221 (by decide) ?_
        have hgo := ih (k := k + 2) (R := va_up R st.length (I (m + 1) h)) (x4 := some (.int (nI 2))) (st := I (m + 1) h :: st) (sr_push _ hsr) hrest (by have := hok.2; rwa [show dep1 20000 st.length = st.length + 1 by unfold dep1; rw [if_pos ha]] at this) (by simp; omega)
        rw [evs, show ev1 (opdR I m h H) 20000 st = I (m + 1) h :: st by unfold ev1 opdR; simp]
        exact hgo
      · skip
        refine r_aload_n dX10_isTrue_85 rfl ?_
        refine r_getR dX10_isTrue_86 fl_X10_32 rfl (kM_0 hM) (pM_10 hM) ?_
        refine r_iload_n dX10_isTrue_89 rfl ?_
        refine r_iald dX10_isTrue_90 (aM_10 hM) (nI_in8 1300 (by omega) (by decide)) (nI_clamp (by omega)) ?_
        rw [am_up_n I R (by omega : m + 7 ≠ m + 26), hw]
        refine r_if_eq (tgt := 224) dX10_isTrue_91 (by decide) (fun hz => absurd hz (show ¬ _ from (by decide))) (fun _ => ?_)
        refine r_aload_n dX10_isTrue_94 rfl ?_
        refine r_getR dX10_isTrue_95 fl_X10_32 rfl (kM_0 hM) (pM_10 hM) ?_
        refine r_iload_n dX10_isTrue_98 rfl ?_
        refine r_iald dX10_isTrue_99 (aM_10 hM) (nI_in8 1300 (by omega) (by decide)) (nI_clamp (by omega)) ?_
        rw [am_up_n I R (by omega : m + 7 ≠ m + 26), hw]
        refine r_istore dX10_isTrue_100 (by decide) ?_
        refine r_iinc (v := nI (k + 1)) dX10_isTrue_102 rfl (nI_inc k) ?_
        refine r_iload dX10_isTrue_105 rfl ?_
        refine r_iconst (v := nI 1) dX10_isTrue_107 (by decide) ?_
        refine r_icmp_eq (tgt := 117) dX10_isTrue_108 (by decide) (fun hz => absurd hz (show ¬ _ from (by decide))) (fun _ => ?_)
        refine r_iload dX10_isTrue_111 rfl ?_
        refine r_iconst (v := nI 2) dX10_isTrue_113 (by decide) ?_
        refine r_icmp_ne (tgt := 158) dX10_isTrue_114 (by decide) (fun hz => absurd (show _ from rfl) hz) (fun _ => ?_)
        refine r_aload_n dX10_isTrue_117 rfl ?_
        refine r_getR dX10_isTrue_118 fl_X10_93 rfl (kM_0 hM) (pM_50 hM) ?_
        refine r_iload_n dX10_isTrue_121 rfl ?_
        refine r_iload dX10_isTrue_122 rfl ?_
        refine r_iconst (v := nI 1) dX10_isTrue_124 (by decide) ?_
        refine r_icmp_ne (tgt := 137) dX10_isTrue_125 (by decide) (fun _ => ?_) (fun hz => absurd hz (show ¬ _ from (by decide)))
        refine r_aload_n dX10_isTrue_137 rfl ?_
        refine r_aload_n dX10_isTrue_138 rfl ?_
        refine r_getR dX10_isTrue_139 fl_X10_32 rfl (kM_0 hM) (pM_10 hM) ?_
        refine r_iload_n dX10_isTrue_142 rfl ?_
        refine r_iald dX10_isTrue_143 (aM_10 hM) (nI_in8 1300 (by omega) (by decide)) (nI_clamp (by omega)) ?_
        rw [am_up_n I R (by omega : m + 7 ≠ m + 26), ha1]
        refine r_iload_n dX10_isTrue_144 rfl ?_
        refine r_virtE (c_X10_valueOf_debts m h H 0 hM (by omega) (by rw [am_up_n I R (by omega : m ≠ m + 26)]; exact hH) hH8) lk_X10_402 mc_X10_valueOf dX10_isTrue_145 (kM_0 hM) (by decide) rfl rfl (Nat.le_of_ble_eq_true rfl) ?_
        try simp (disch := omega) only [am_up_s, am_up_n]
        refine r_iast dX10_isTrue_148 (aM_50 hM) (nI_in8 650 (by (try simp at h40); omega) (by decide)) (nI_clamp (by (try simp at h40); omega)) ?_
        rw [am_up_s I, am_up_up I]
        refine r_iinc (v := nI (k + 2)) dX10_isTrue_149 rfl (nI_inc (k + 1)) ?_
        refine r_iinc (v := nI (st.length + 1)) dX10_isTrue_152 rfl (nI_inc st.length) ?_
        refine r_goto (tgt := 221) dX10_isTrue_155 (by decide) ?_
        refine r_goto (tgt := 85) dX10_isTrue_221 (by decide) ?_
        have hgo := ih (k := k + 2) (R := va_up R st.length (I (m + 2) h)) (x4 := some (.int (nI 2))) (st := I (m + 2) h :: st) (sr_push _ hsr) hrest (by have := hok.2; rwa [show dep1 20001 st.length = st.length + 1 by unfold dep1; rw [if_pos ha]] at this) (by simp; omega)
        rw [evs, show ev1 (opdR I m h H) 20001 st = I (m + 2) h :: st by unfold ev1 opdR; simp]
        exact hgo
      · skip
        refine r_aload_n dX10_isTrue_85 rfl ?_
        refine r_getR dX10_isTrue_86 fl_X10_32 rfl (kM_0 hM) (pM_10 hM) ?_
        refine r_iload_n dX10_isTrue_89 rfl ?_
        refine r_iald dX10_isTrue_90 (aM_10 hM) (nI_in8 1300 (by omega) (by decide)) (nI_clamp (by omega)) ?_
        rw [am_up_n I R (by omega : m + 7 ≠ m + 26), hw]
        refine r_if_eq (tgt := 224) dX10_isTrue_91 (by decide) (fun hz => absurd hz (show ¬ _ from (by decide))) (fun _ => ?_)
        refine r_aload_n dX10_isTrue_94 rfl ?_
        refine r_getR dX10_isTrue_95 fl_X10_32 rfl (kM_0 hM) (pM_10 hM) ?_
        refine r_iload_n dX10_isTrue_98 rfl ?_
        refine r_iald dX10_isTrue_99 (aM_10 hM) (nI_in8 1300 (by omega) (by decide)) (nI_clamp (by omega)) ?_
        rw [am_up_n I R (by omega : m + 7 ≠ m + 26), hw]
        refine r_istore dX10_isTrue_100 (by decide) ?_
        refine r_iinc (v := nI (k + 1)) dX10_isTrue_102 rfl (nI_inc k) ?_
        refine r_iload dX10_isTrue_105 rfl ?_
        refine r_iconst (v := nI 1) dX10_isTrue_107 (by decide) ?_
        refine r_icmp_eq (tgt := 117) dX10_isTrue_108 (by decide) (fun hz => absurd hz (show ¬ _ from (by decide))) (fun _ => ?_)
        refine r_iload dX10_isTrue_111 rfl ?_
        refine r_iconst (v := nI 2) dX10_isTrue_113 (by decide) ?_
        refine r_icmp_ne (tgt := 158) dX10_isTrue_114 (by decide) (fun hz => absurd (show _ from rfl) hz) (fun _ => ?_)
        refine r_aload_n dX10_isTrue_117 rfl ?_
        refine r_getR dX10_isTrue_118 fl_X10_93 rfl (kM_0 hM) (pM_50 hM) ?_
        refine r_iload_n dX10_isTrue_121 rfl ?_
        refine r_iload dX10_isTrue_122 rfl ?_
        refine r_iconst (v := nI 1) dX10_isTrue_124 (by decide) ?_
        refine r_icmp_ne (tgt := 137) dX10_isTrue_125 (by decide) (fun _ => ?_) (fun hz => absurd hz (show ¬ _ from (by decide)))
        refine r_aload_n dX10_isTrue_137 rfl ?_
        refine r_aload_n dX10_isTrue_138 rfl ?_
        refine r_getR dX10_isTrue_139 fl_X10_32 rfl (kM_0 hM) (pM_10 hM) ?_
        refine r_iload_n dX10_isTrue_142 rfl ?_
        refine r_iald dX10_isTrue_143 (aM_10 hM) (nI_in8 1300 (by omega) (by decide)) (nI_clamp (by omega)) ?_
        rw [am_up_n I R (by omega : m + 7 ≠ m + 26), ha1]
        refine r_iload_n dX10_isTrue_144 rfl ?_
        refine r_virtE (c_X10_valueOf_most m h H 0 hM (by omega) (by rw [am_up_n I R (by omega : m ≠ m + 26)]; exact hH) hH8) lk_X10_402 mc_X10_valueOf dX10_isTrue_145 (kM_0 hM) (by decide) rfl rfl (Nat.le_of_ble_eq_true rfl) ?_
        try simp (disch := omega) only [am_up_s, am_up_n]
        refine r_iast dX10_isTrue_148 (aM_50 hM) (nI_in8 650 (by (try simp at h40); omega) (by decide)) (nI_clamp (by (try simp at h40); omega)) ?_
        rw [am_up_s I, am_up_up I]
        refine r_iinc (v := nI (k + 2)) dX10_isTrue_149 rfl (nI_inc (k + 1)) ?_
        refine r_iinc (v := nI (st.length + 1)) dX10_isTrue_152 rfl (nI_inc st.length) ?_
        refine r_goto (tgt := 221) dX10_isTrue_155 (by decide) ?_
        refine r_goto (tgt := 85) dX10_isTrue_221 (by decide) ?_
        have hgo := ih (k := k + 2) (R := va_up R st.length (I m 2)) (x4 := some (.int (nI 2))) (st := I m 2 :: st) (sr_push _ hsr) hrest (by have := hok.2; rwa [show dep1 20002 st.length = st.length + 1 by unfold dep1; rw [if_pos ha]] at this) (by simp; omega)
        rw [evs, show ev1 (opdR I m h H) 20002 st = I m 2 :: st by unfold ev1 opdR; simp]
        exact hgo
      · by_cases htH : t < H
        · skip
          refine r_aload_n dX10_isTrue_85 rfl ?_
          refine r_getR dX10_isTrue_86 fl_X10_32 rfl (kM_0 hM) (pM_10 hM) ?_
          refine r_iload_n dX10_isTrue_89 rfl ?_
          refine r_iald dX10_isTrue_90 (aM_10 hM) (nI_in8 1300 (by omega) (by decide)) (nI_clamp (by omega)) ?_
          rw [am_up_n I R (by omega : m + 7 ≠ m + 26), hw]
          refine r_if_eq (tgt := 224) dX10_isTrue_91 (by decide) (fun hz => absurd hz (show ¬ _ from (by decide))) (fun _ => ?_)
          refine r_aload_n dX10_isTrue_94 rfl ?_
          refine r_getR dX10_isTrue_95 fl_X10_32 rfl (kM_0 hM) (pM_10 hM) ?_
          refine r_iload_n dX10_isTrue_98 rfl ?_
          refine r_iald dX10_isTrue_99 (aM_10 hM) (nI_in8 1300 (by omega) (by decide)) (nI_clamp (by omega)) ?_
          rw [am_up_n I R (by omega : m + 7 ≠ m + 26), hw]
          refine r_istore dX10_isTrue_100 (by decide) ?_
          refine r_iinc (v := nI (k + 1)) dX10_isTrue_102 rfl (nI_inc k) ?_
          refine r_iload dX10_isTrue_105 rfl ?_
          refine r_iconst (v := nI 1) dX10_isTrue_107 (by decide) ?_
          refine r_icmp_eq (tgt := 117) dX10_isTrue_108 (by decide) (fun hz => absurd hz (show ¬ _ from (by decide))) (fun _ => ?_)
          refine r_iload dX10_isTrue_111 rfl ?_
          refine r_iconst (v := nI 2) dX10_isTrue_113 (by decide) ?_
          refine r_icmp_ne (tgt := 158) dX10_isTrue_114 (by decide) (fun hz => absurd (show _ from rfl) hz) (fun _ => ?_)
          refine r_aload_n dX10_isTrue_117 rfl ?_
          refine r_getR dX10_isTrue_118 fl_X10_93 rfl (kM_0 hM) (pM_50 hM) ?_
          refine r_iload_n dX10_isTrue_121 rfl ?_
          refine r_iload dX10_isTrue_122 rfl ?_
          refine r_iconst (v := nI 1) dX10_isTrue_124 (by decide) ?_
          refine r_icmp_ne (tgt := 137) dX10_isTrue_125 (by decide) (fun _ => ?_) (fun hz => absurd hz (show ¬ _ from (by decide)))
          refine r_aload_n dX10_isTrue_137 rfl ?_
          refine r_aload_n dX10_isTrue_138 rfl ?_
          refine r_getR dX10_isTrue_139 fl_X10_32 rfl (kM_0 hM) (pM_10 hM) ?_
          refine r_iload_n dX10_isTrue_142 rfl ?_
          refine r_iald dX10_isTrue_143 (aM_10 hM) (nI_in8 1300 (by omega) (by decide)) (nI_clamp (by omega)) ?_
          rw [am_up_n I R (by omega : m + 7 ≠ m + 26), ha1]
          refine r_iload_n dX10_isTrue_144 rfl ?_
          refine r_virtE (c_X10_valueOf_in m h H t hM (by omega) (by rw [am_up_n I R (by omega : m ≠ m + 26)]; exact hH) hH8 htH) lk_X10_402 mc_X10_valueOf dX10_isTrue_145 (kM_0 hM) (by decide) rfl rfl (Nat.le_of_ble_eq_true rfl) ?_
          try simp (disch := omega) only [am_up_s, am_up_n]
          refine r_iast dX10_isTrue_148 (aM_50 hM) (nI_in8 650 (by (try simp at h40); omega) (by decide)) (nI_clamp (by (try simp at h40); omega)) ?_
          rw [am_up_s I, am_up_up I]
          refine r_iinc (v := nI (k + 2)) dX10_isTrue_149 rfl (nI_inc (k + 1)) ?_
          refine r_iinc (v := nI (st.length + 1)) dX10_isTrue_152 rfl (nI_inc st.length) ?_
          refine r_goto (tgt := 221) dX10_isTrue_155 (by decide) ?_
          refine r_goto (tgt := 85) dX10_isTrue_221 (by decide) ?_
          have hgo := ih (k := k + 2) (R := va_up R st.length (I (m + 25) t)) (x4 := some (.int (nI 2))) (st := I (m + 25) t :: st) (sr_push _ hsr) hrest (by have := hok.2; rwa [show dep1 (10000 + t) st.length = st.length + 1 by unfold dep1; rw [if_pos ha]] at this) (by simp; omega)
          rw [evs, show ev1 (opdR I m h H) (10000 + t) st = I (m + 25) t :: st by unfold ev1 opdR; simp [htH, show 10000 + t < 20003 by omega, show 10000 + t < 20000 by omega, show ¬ 10000 + t < 10000 by omega]]
          exact hgo
        · skip
          refine r_aload_n dX10_isTrue_85 rfl ?_
          refine r_getR dX10_isTrue_86 fl_X10_32 rfl (kM_0 hM) (pM_10 hM) ?_
          refine r_iload_n dX10_isTrue_89 rfl ?_
          refine r_iald dX10_isTrue_90 (aM_10 hM) (nI_in8 1300 (by omega) (by decide)) (nI_clamp (by omega)) ?_
          rw [am_up_n I R (by omega : m + 7 ≠ m + 26), hw]
          refine r_if_eq (tgt := 224) dX10_isTrue_91 (by decide) (fun hz => absurd hz (show ¬ _ from (by decide))) (fun _ => ?_)
          refine r_aload_n dX10_isTrue_94 rfl ?_
          refine r_getR dX10_isTrue_95 fl_X10_32 rfl (kM_0 hM) (pM_10 hM) ?_
          refine r_iload_n dX10_isTrue_98 rfl ?_
          refine r_iald dX10_isTrue_99 (aM_10 hM) (nI_in8 1300 (by omega) (by decide)) (nI_clamp (by omega)) ?_
          rw [am_up_n I R (by omega : m + 7 ≠ m + 26), hw]
          refine r_istore dX10_isTrue_100 (by decide) ?_
          refine r_iinc (v := nI (k + 1)) dX10_isTrue_102 rfl (nI_inc k) ?_
          refine r_iload dX10_isTrue_105 rfl ?_
          refine r_iconst (v := nI 1) dX10_isTrue_107 (by decide) ?_
          refine r_icmp_eq (tgt := 117) dX10_isTrue_108 (by decide) (fun hz => absurd hz (show ¬ _ from (by decide))) (fun _ => ?_)
          refine r_iload dX10_isTrue_111 rfl ?_
          refine r_iconst (v := nI 2) dX10_isTrue_113 (by decide) ?_
          refine r_icmp_ne (tgt := 158) dX10_isTrue_114 (by decide) (fun hz => absurd (show _ from rfl) hz) (fun _ => ?_)
          refine r_aload_n dX10_isTrue_117 rfl ?_
          refine r_getR dX10_isTrue_118 fl_X10_93 rfl (kM_0 hM) (pM_50 hM) ?_
          refine r_iload_n dX10_isTrue_121 rfl ?_
          refine r_iload dX10_isTrue_122 rfl ?_
          refine r_iconst (v := nI 1) dX10_isTrue_124 (by decide) ?_
          refine r_icmp_ne (tgt := 137) dX10_isTrue_125 (by decide) (fun _ => ?_) (fun hz => absurd hz (show ¬ _ from (by decide)))
          refine r_aload_n dX10_isTrue_137 rfl ?_
          refine r_aload_n dX10_isTrue_138 rfl ?_
          refine r_getR dX10_isTrue_139 fl_X10_32 rfl (kM_0 hM) (pM_10 hM) ?_
          refine r_iload_n dX10_isTrue_142 rfl ?_
          refine r_iald dX10_isTrue_143 (aM_10 hM) (nI_in8 1300 (by omega) (by decide)) (nI_clamp (by omega)) ?_
          rw [am_up_n I R (by omega : m + 7 ≠ m + 26), ha1]
          refine r_iload_n dX10_isTrue_144 rfl ?_
          refine r_virtE (c_X10_valueOf_out m h H t hM (by omega) (by rw [am_up_n I R (by omega : m ≠ m + 26)]; exact hH) hH8 (by omega) ht3) lk_X10_402 mc_X10_valueOf dX10_isTrue_145 (kM_0 hM) (by decide) rfl rfl (Nat.le_of_ble_eq_true rfl) ?_
          try simp (disch := omega) only [am_up_s, am_up_n]
          refine r_iast dX10_isTrue_148 (aM_50 hM) (nI_in8 650 (by (try simp at h40); omega) (by decide)) (nI_clamp (by (try simp at h40); omega)) ?_
          rw [am_up_s I, am_up_up I]
          refine r_iinc (v := nI (k + 2)) dX10_isTrue_149 rfl (nI_inc (k + 1)) ?_
          refine r_iinc (v := nI (st.length + 1)) dX10_isTrue_152 rfl (nI_inc st.length) ?_
          refine r_goto (tgt := 221) dX10_isTrue_155 (by decide) ?_
          refine r_goto (tgt := 85) dX10_isTrue_221 (by decide) ?_
          have hgo := ih (k := k + 2) (R := va_up R st.length (nI 0)) (x4 := some (.int (nI 2))) (st := nI 0 :: st) (sr_push _ hsr) hrest (by have := hok.2; rwa [show dep1 (10000 + t) st.length = st.length + 1 by unfold dep1; rw [if_pos ha]] at this) (by simp; omega)
          rw [evs, show ev1 (opdR I m h H) (10000 + t) st = nI 0 :: st by unfold ev1 opdR; simp [htH, show 10000 + t < 20003 by omega, show 10000 + t < 20000 by omega, show ¬ 10000 + t < 10000 by omega]]
          exact hgo
    · rw [if_neg ha] at hk2
      obtain ⟨hw, hrest⟩ := hk2
      by_cases hb : c = 20003
      · rw [hb, show opw 20003 = 3 from rfl] at hw
        have h1 : 1 ≤ st.length := by have := hok.1; rwa [if_neg ha, if_pos hb] at this
        match st, h1, hsr, hok, h40 with
        | x :: r, _, hsr, hok, h40 =>
        by_cases hx : x = 0
        · skip
          refine r_aload_n dX10_isTrue_85 rfl ?_
          refine r_getR dX10_isTrue_86 fl_X10_32 rfl (kM_0 hM) (pM_10 hM) ?_
          refine r_iload_n dX10_isTrue_89 rfl ?_
          refine r_iald dX10_isTrue_90 (aM_10 hM) (nI_in8 1300 (by omega) (by decide)) (nI_clamp (by omega)) ?_
          rw [am_up_n I R (by omega : m + 7 ≠ m + 26), hw]
          refine r_if_eq (tgt := 224) dX10_isTrue_91 (by decide) (fun hz => absurd hz (show ¬ _ from (by decide))) (fun _ => ?_)
          refine r_aload_n dX10_isTrue_94 rfl ?_
          refine r_getR dX10_isTrue_95 fl_X10_32 rfl (kM_0 hM) (pM_10 hM) ?_
          refine r_iload_n dX10_isTrue_98 rfl ?_
          refine r_iald dX10_isTrue_99 (aM_10 hM) (nI_in8 1300 (by omega) (by decide)) (nI_clamp (by omega)) ?_
          rw [am_up_n I R (by omega : m + 7 ≠ m + 26), hw]
          refine r_istore dX10_isTrue_100 (by decide) ?_
          refine r_iinc (v := nI (k + 1)) dX10_isTrue_102 rfl (nI_inc k) ?_
          refine r_iload dX10_isTrue_105 rfl ?_
          refine r_iconst (v := nI 1) dX10_isTrue_107 (by decide) ?_
          refine r_icmp_eq (tgt := 117) dX10_isTrue_108 (by decide) (fun hz => absurd hz (show ¬ _ from (by decide))) (fun _ => ?_)
          refine r_iload dX10_isTrue_111 rfl ?_
          refine r_iconst (v := nI 2) dX10_isTrue_113 (by decide) ?_
          refine r_icmp_ne (tgt := 158) dX10_isTrue_114 (by decide) (fun _ => ?_) (fun hz => absurd hz (show ¬ _ from (by decide)))
          refine r_iload dX10_isTrue_158 rfl ?_
          refine r_iconst (v := nI 3) dX10_isTrue_160 (by decide) ?_
          refine r_icmp_ne (tgt := 191) dX10_isTrue_161 (by decide) (fun hz => absurd (show _ from rfl) hz) (fun _ => ?_)
          refine r_aload_n dX10_isTrue_164 rfl ?_
          refine r_getR dX10_isTrue_165 fl_X10_93 rfl (kM_0 hM) (pM_50 hM) ?_
          refine r_iload_n dX10_isTrue_168 rfl ?_
          refine r_iconst (v := nI 1) dX10_isTrue_169 (by decide) ?_
          refine r_isub dX10_isTrue_170 ?_
          rw [show nI (x :: r).length - nI 1 = nI r.length from nI_s1 r.length]
          refine r_aload_n dX10_isTrue_171 rfl ?_
          refine r_getR dX10_isTrue_172 fl_X10_93 rfl (kM_0 hM) (pM_50 hM) ?_
          refine r_iload_n dX10_isTrue_175 rfl ?_
          refine r_iconst (v := nI 1) dX10_isTrue_176 (by decide) ?_
          refine r_isub dX10_isTrue_177 ?_
          rw [show nI (x :: r).length - nI 1 = nI r.length from nI_s1 r.length]
          refine r_iald dX10_isTrue_178 (aM_50 hM) (nI_in8 650 (by (try simp at h40); omega) (by decide)) (nI_clamp (by (try simp at h40); omega)) ?_
          rw [am_up_s I, hsr.1]
          refine r_if_ne (tgt := 186) dX10_isTrue_179 (by decide) (fun hz => absurd (show _ from hx) hz) (fun _ => ?_)
          refine r_iconst (v := nI 1) dX10_isTrue_182 (by decide) ?_
          refine r_goto (tgt := 187) dX10_isTrue_183 (by decide) ?_
          refine r_iast dX10_isTrue_187 (aM_50 hM) (nI_in8 650 (by (try simp at h40); omega) (by decide)) (nI_clamp (by (try simp at h40); omega)) ?_
          rw [am_up_s I, am_up_up I]
          refine r_goto (tgt := 221) dX10_isTrue_188 (by decide) ?_
          refine r_goto (tgt := 85) dX10_isTrue_221 (by decide) ?_
          have hgo := ih (k := k + 1) (R := va_up R r.length (nI 1)) (x4 := some (.int (nI 3))) (st := nI 1 :: r) (sr_push _ hsr.2) hrest (by have := hok.2; rwa [show dep1 c (x :: r).length = r.length + 1 by unfold dep1; rw [if_neg ha, if_pos hb]; rfl] at this) h40
          rw [evs, show ev1 (opdR I m h H) c (x :: r) = nI 1 :: r by unfold ev1; rw [if_neg ha, if_pos hb]; simp [hx]]
          exact hgo
        · skip
          refine r_aload_n dX10_isTrue_85 rfl ?_
          refine r_getR dX10_isTrue_86 fl_X10_32 rfl (kM_0 hM) (pM_10 hM) ?_
          refine r_iload_n dX10_isTrue_89 rfl ?_
          refine r_iald dX10_isTrue_90 (aM_10 hM) (nI_in8 1300 (by omega) (by decide)) (nI_clamp (by omega)) ?_
          rw [am_up_n I R (by omega : m + 7 ≠ m + 26), hw]
          refine r_if_eq (tgt := 224) dX10_isTrue_91 (by decide) (fun hz => absurd hz (show ¬ _ from (by decide))) (fun _ => ?_)
          refine r_aload_n dX10_isTrue_94 rfl ?_
          refine r_getR dX10_isTrue_95 fl_X10_32 rfl (kM_0 hM) (pM_10 hM) ?_
          refine r_iload_n dX10_isTrue_98 rfl ?_
          refine r_iald dX10_isTrue_99 (aM_10 hM) (nI_in8 1300 (by omega) (by decide)) (nI_clamp (by omega)) ?_
          rw [am_up_n I R (by omega : m + 7 ≠ m + 26), hw]
          refine r_istore dX10_isTrue_100 (by decide) ?_
          refine r_iinc (v := nI (k + 1)) dX10_isTrue_102 rfl (nI_inc k) ?_
          refine r_iload dX10_isTrue_105 rfl ?_
          refine r_iconst (v := nI 1) dX10_isTrue_107 (by decide) ?_
          refine r_icmp_eq (tgt := 117) dX10_isTrue_108 (by decide) (fun hz => absurd hz (show ¬ _ from (by decide))) (fun _ => ?_)
          refine r_iload dX10_isTrue_111 rfl ?_
          refine r_iconst (v := nI 2) dX10_isTrue_113 (by decide) ?_
          refine r_icmp_ne (tgt := 158) dX10_isTrue_114 (by decide) (fun _ => ?_) (fun hz => absurd hz (show ¬ _ from (by decide)))
          refine r_iload dX10_isTrue_158 rfl ?_
          refine r_iconst (v := nI 3) dX10_isTrue_160 (by decide) ?_
          refine r_icmp_ne (tgt := 191) dX10_isTrue_161 (by decide) (fun hz => absurd (show _ from rfl) hz) (fun _ => ?_)
          refine r_aload_n dX10_isTrue_164 rfl ?_
          refine r_getR dX10_isTrue_165 fl_X10_93 rfl (kM_0 hM) (pM_50 hM) ?_
          refine r_iload_n dX10_isTrue_168 rfl ?_
          refine r_iconst (v := nI 1) dX10_isTrue_169 (by decide) ?_
          refine r_isub dX10_isTrue_170 ?_
          rw [show nI (x :: r).length - nI 1 = nI r.length from nI_s1 r.length]
          refine r_aload_n dX10_isTrue_171 rfl ?_
          refine r_getR dX10_isTrue_172 fl_X10_93 rfl (kM_0 hM) (pM_50 hM) ?_
          refine r_iload_n dX10_isTrue_175 rfl ?_
          refine r_iconst (v := nI 1) dX10_isTrue_176 (by decide) ?_
          refine r_isub dX10_isTrue_177 ?_
          rw [show nI (x :: r).length - nI 1 = nI r.length from nI_s1 r.length]
          refine r_iald dX10_isTrue_178 (aM_50 hM) (nI_in8 650 (by (try simp at h40); omega) (by decide)) (nI_clamp (by (try simp at h40); omega)) ?_
          rw [am_up_s I, hsr.1]
          refine r_if_ne (tgt := 186) dX10_isTrue_179 (by decide) (fun _ => ?_) (fun hz => absurd hz (show ¬ _ from hx))
          refine r_iconst (v := nI 0) dX10_isTrue_186 (by decide) ?_
          refine r_iast dX10_isTrue_187 (aM_50 hM) (nI_in8 650 (by (try simp at h40); omega) (by decide)) (nI_clamp (by (try simp at h40); omega)) ?_
          rw [am_up_s I, am_up_up I]
          refine r_goto (tgt := 221) dX10_isTrue_188 (by decide) ?_
          refine r_goto (tgt := 85) dX10_isTrue_221 (by decide) ?_
          have hgo := ih (k := k + 1) (R := va_up R r.length (nI 0)) (x4 := some (.int (nI 3))) (st := nI 0 :: r) (sr_push _ hsr.2) hrest (by have := hok.2; rwa [show dep1 c (x :: r).length = r.length + 1 by unfold dep1; rw [if_neg ha, if_pos hb]; rfl] at this) h40
          rw [evs, show ev1 (opdR I m h H) c (x :: r) = nI 0 :: r by unfold ev1; rw [if_neg ha, if_pos hb]; simp [hx]]
          exact hgo
      · have hcl : c < 20012 := by have := hok.1; rw [if_neg ha, if_neg hb] at this; exact this.2
        have hop : 4 ≤ opw c ∧ opw c < 12 := opw_in hb
        have h1 : 2 ≤ st.length := by have := hok.1; rw [if_neg ha, if_neg hb] at this; exact this.1
        match st, h1, hsr, hok, h40 with
        | y :: x :: r, _, hsr, hok, h40 =>
        refine r_aload_n dX10_isTrue_85 rfl ?_
        refine r_getR dX10_isTrue_86 fl_X10_32 rfl (kM_0 hM) (pM_10 hM) ?_
        refine r_iload_n dX10_isTrue_89 rfl ?_
        refine r_iald dX10_isTrue_90 (aM_10 hM) (nI_in8 1300 (by omega) (by decide)) (nI_clamp (by omega)) ?_
        rw [am_up_n I R (by omega : m + 7 ≠ m + 26), hw]
        refine r_if_eq (tgt := 224) dX10_isTrue_91 (by decide) (fun hz => absurd hz (show ¬ _ from (by rw [z_eq (by omega)]; omega))) (fun _ => ?_)
        refine r_aload_n dX10_isTrue_94 rfl ?_
        refine r_getR dX10_isTrue_95 fl_X10_32 rfl (kM_0 hM) (pM_10 hM) ?_
        refine r_iload_n dX10_isTrue_98 rfl ?_
        refine r_iald dX10_isTrue_99 (aM_10 hM) (nI_in8 1300 (by omega) (by decide)) (nI_clamp (by omega)) ?_
        rw [am_up_n I R (by omega : m + 7 ≠ m + 26), hw]
        refine r_istore dX10_isTrue_100 (by decide) ?_
        refine r_iinc (v := nI (k + 1)) dX10_isTrue_102 rfl (nI_inc k) ?_
        refine r_iload dX10_isTrue_105 rfl ?_
        refine r_iconst (v := nI 1) dX10_isTrue_107 (by decide) ?_
        refine r_icmp_eq (tgt := 117) dX10_isTrue_108 (by decide) (fun hz => absurd hz (show ¬ _ from (by rw [nI_eq (by omega) (by omega)]; omega))) (fun _ => ?_)
        refine r_iload dX10_isTrue_111 rfl ?_
        refine r_iconst (v := nI 2) dX10_isTrue_113 (by decide) ?_
        refine r_icmp_ne (tgt := 158) dX10_isTrue_114 (by decide) (fun _ => ?_) (fun hz => absurd hz (show ¬ _ from (by rw [nI_eq (by omega) (by omega)]; omega)))
        refine r_iload dX10_isTrue_158 rfl ?_
        refine r_iconst (v := nI 3) dX10_isTrue_160 (by decide) ?_
        refine r_icmp_ne (tgt := 191) dX10_isTrue_161 (by decide) (fun _ => ?_) (fun hz => absurd hz (show ¬ _ from (by rw [nI_eq (by omega) (by omega)]; omega)))
        refine r_iinc (v := nI (r.length + 1)) dX10_isTrue_191 rfl (nI_dec (r.length + 1)) ?_
        refine r_aload_n dX10_isTrue_194 rfl ?_
        refine r_getR dX10_isTrue_195 fl_X10_93 rfl (kM_0 hM) (pM_50 hM) ?_
        refine r_iload_n dX10_isTrue_198 rfl ?_
        refine r_iconst (v := nI 1) dX10_isTrue_199 (by decide) ?_
        refine r_isub dX10_isTrue_200 ?_
        rw [show nI (r.length + 1) - nI 1 = nI r.length from nI_s1 r.length]
        refine r_iload dX10_isTrue_201 rfl ?_
        refine r_aload_n dX10_isTrue_203 rfl ?_
        refine r_getR dX10_isTrue_204 fl_X10_93 rfl (kM_0 hM) (pM_50 hM) ?_
        refine r_iload_n dX10_isTrue_207 rfl ?_
        refine r_iconst (v := nI 1) dX10_isTrue_208 (by decide) ?_
        refine r_isub dX10_isTrue_209 ?_
        rw [show nI (r.length + 1) - nI 1 = nI r.length from nI_s1 r.length]
        refine r_iald dX10_isTrue_210 (aM_50 hM) (nI_in8 650 (by (try simp at h40); omega) (by decide)) (nI_clamp (by (try simp at h40); omega)) ?_
        rw [am_up_s I, hsr.2.1]
        refine r_aload_n dX10_isTrue_211 rfl ?_
        refine r_getR dX10_isTrue_212 fl_X10_93 rfl (kM_0 hM) (pM_50 hM) ?_
        refine r_iload_n dX10_isTrue_215 rfl ?_
        refine r_iald dX10_isTrue_216 (aM_50 hM) (nI_in8 650 (by (try simp at h40); omega) (by decide)) (nI_clamp (by (try simp at h40); omega)) ?_
        rw [am_up_s I, show R (r.length + 1) = y from hsr.1]
        refine r_statE (c_X10_works (nI (opw c)) x y) lk_X10_405 mc_X10_works dX10_isTrue_217 (by decide) rfl rfl (Nat.le_of_ble_eq_true rfl) ?_
        rw [wk_jn (by omega) hcl]
        refine r_iast dX10_isTrue_220 (aM_50 hM) (nI_in8 650 (by (try simp at h40); omega) (by decide)) (nI_clamp (by (try simp at h40); omega)) ?_
        rw [am_up_s I, am_up_up I]
        refine r_goto (tgt := 85) dX10_isTrue_221 (by decide) ?_
        have hgo := ih (k := k + 1) (R := va_up R r.length (jn (nI c) x y)) (x4 := some (.int (nI (opw c)))) (st := jn (nI c) x y :: r) (sr_push _ hsr.2.2) hrest (by have := hok.2; rwa [show dep1 c (y :: x :: r).length = r.length + 1 by unfold dep1; rw [if_neg ha, if_neg hb]; rfl] at this) (by simp at h40 ⊢; omega)
        rw [evs, show ev1 (opdR I m h H) c (y :: x :: r) = jn (nI c) x y :: r by unfold ev1; rw [if_neg ha, if_neg hb]]
        exact hgo

set_option maxHeartbeats 4000000 in
set_option maxRecDepth 100000 in
theorem c_X10_isTrue (m h H k : Nat) (cs : List Nat) {n : Nat} {kd : mK} {I : mI} {J : mJ} {P : mP} (hM : kM kd P m) (hh : h < H) (hH8 : H ≤ 8) (hH : I m 1 = nI H) (hfr : ¬ nI h = I m 54) (hat : I (m + 5) h = nI k) (hcs : rcs (I (m + 7)) cs k) (hok : okd cs 0) : Ct yX10_isTrue cX10_isTrue 5 (some .boolean) 2 0 0 [.ref m, .int (nI h)] n kd I J P (am_sc (some (.int (bz (!decide (lastI (evs (opdR I m h H) cs []) = 0))))) (m + 26) n kd I J P) := by
  refine ct_of 3 (by decide +kernel) (Nat.le_of_ble_eq_true rfl) rfl ?_
  refine r_iload_n dX10_isTrue_0 rfl ?_
  refine r_aload_n dX10_isTrue_1 rfl ?_
  refine r_getI dX10_isTrue_2 fl_X10_99 rfl (kM_0 hM) ?_
  try simp (disch := omega) only [am_up_s, am_up_n, am_up_up]
  refine r_icmp_ne (tgt := 76) dX10_isTrue_5 (by decide) (fun _ => ?_) (fun hz => absurd hz (show ¬ _ from hfr))
  refine r_iconst (v := nI 0) dX10_isTrue_76 (by decide) ?_
  refine r_istore_n dX10_isTrue_77 (by decide) ?_
  refine r_aload_n dX10_isTrue_78 rfl ?_
  refine r_getR dX10_isTrue_79 fl_X10_26 rfl (kM_0 hM) (pM_8 hM) ?_
  refine r_iload_n dX10_isTrue_82 rfl ?_
  refine r_iald dX10_isTrue_83 (aM_8 hM) (nI_in8 8 (by omega) (by decide)) (nI_clamp (by omega)) ?_
  rw [hat]
  refine r_istore_n dX10_isTrue_84 (by decide) ?_
  have hw := w_X10_isTrue (n := n) (kd := kd) (I := I) (J := J) (P := P) m h H hM hh hH8 hH cs (st := []) (R := I (m + 26)) (k := k) (x4 := none) trivial hcs hok (by simp)
  rw [am_up_id] at hw
  exact hw


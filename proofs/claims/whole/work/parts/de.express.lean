/-! STREET: the reference's expression -/
theorem firstN {T : RT} {h : Nat} : ∀ (n : Nat) (C : Cf), C.1 < 2 → ¬ (itr (stp T h) n C).1 < 2 → ∃ k, 1 ≤ k ∧ k ≤ n ∧ (∀ j, j < k → (itr (stp T h) j C).1 < 2) ∧ ¬ (itr (stp T h) k C).1 < 2
  | 0, C, h0, h1 => absurd h0 h1
  | n + 1, C, h0, h1 => by
    by_cases c : (stp T h C).1 < 2
    · obtain ⟨k, k1, k2, k3, k4⟩ := firstN n (stp T h C) c h1
      refine ⟨k + 1, by omega, by omega, fun j hj => ?_, k4⟩
      cases j with
      | zero => exact h0
      | succ j => exact k3 j (by omega)
    · exact ⟨1, Nat.le_refl _, by omega, fun j hj => by rw [show j = 0 by omega]; exact h0, c⟩
theorem itr_split (f : Cf → Cf) {k n : Nat} (hk : k ≤ n) (C : Cf) : itr f n C = itr f (n - k) (itr f k C) := by
  rw [← itr_add, show k + (n - k) = n by omega]
theorem itr_end {T : RT} {h : Nat} : ∀ (n : Nat) (C : Cf), 2 < C.1 → itr (stp T h) n C = C
  | 0, C, _ => rfl
  | n + 1, C, hc => by
    have e : stp T h C = C := by
      obtain ⟨md, c, i, out, w, te⟩ := C
      have hc : 2 < md := hc
      show (if md < 2 then _ else if md = 2 then _ else (md, c, i, out, w, te)) = _
      rw [if_neg (by omega), if_neg (by omega)]
    show itr (stp T h) n (stp T h C) = C
    rw [e]
    exact itr_end n C hc
theorem stO_md {T : RT} {h md c i : Nat} {out w : List Nat} {te : Nat → Bool} : (stO T h md c i out w te).1 < 4 := by
  unfold stO
  split
  · split <;> (first | (show (3 : Nat) < 4; decide) | (show (1 : Nat) < 4; decide))
  · split
    · split <;> (first | (show (3 : Nat) < 4; decide) | (show (1 : Nat) < 4; decide))
    · split <;> (first | (show (3 : Nat) < 4; decide) | (show (2 : Nat) < 4; decide))
theorem opRun_md {T : RT} {h k : Nat} {C : Cf} (hk : 1 ≤ k) (hj : ∀ j, j < k → (itr (stp T h) j C).1 < 2) (hn : ¬ (itr (stp T h) k C).1 < 2) : (itr (stp T h) k C).1 = 2 ∨ (itr (stp T h) k C).1 = 3 := by
  have h1 := hj (k - 1) (by omega)
  have e : itr (stp T h) k C = stp T h (itr (stp T h) (k - 1) C) := by
    rw [itr_split (stp T h) (show k - 1 ≤ k by omega) C, show k - (k - 1) = 1 by omega]
    rfl
  rw [e] at hn ⊢
  generalize itr (stp T h) (k - 1) C = D at h1 hn ⊢
  obtain ⟨md, c, i, out, w, te⟩ := D
  rw [stp_O (show md < 2 from h1)] at hn ⊢
  have := stO_md (T := T) (h := h) (md := md) (c := c) (i := i) (out := out) (w := w) (te := te)
  omega
/-- a whole expression read -/
def eF (m h : Nat) (T : RT) (a0 : Nat) (C0 : Nat → Int32) (I : mI) (J : mJ) (i : Nat) (out : List Nat) : Prop := (I m 16 = nI 0 ∧ I m 27 = nI h ∧ gIn m T.1 T.2.2.2.2.2 I) ∧ (gTk m T.2.2.2.2.2 I J (tkAt T i) ∧ i < T.2.1) ∧ (∃ top, I m 30 = nI (top + 1) ∧ (∀ Cd : Nat → Int32, (∀ k, k < top + 1 → Cd k = I (m + 20) k) → rcs Cd out a0) ∧ (∀ k, k < a0 → I (m + 20) k = C0 k) ∧ a0 ≤ top ∧ top + 4 ≤ 2 * i) ∧ I m 29 = nI (lkm 0 out % 256)
def eX (m : Nat) (T : RT) (I : mI) (f j : Nat) : Prop := I m 16 = nI f ∧ (¬ f = 0 ∧ f < 4) ∧ I m 17 = nI (T.2.2.2.1 j)
theorem dX10_expression_0 : decode cX10_expression 0 = .ok (.aload_n 0, 1) := by decide +kernel
theorem dX10_expression_1 : decode cX10_expression 1 = .ok (.invokevirtual 252, 3) := by decide +kernel
theorem dX10_expression_4 : decode cX10_expression 4 = .ok (.ifCond .ne 4, 3) := by decide +kernel
theorem dX10_expression_7 : decode cX10_expression 7 = .ok (.return_, 1) := by decide +kernel
theorem dX10_expression_8 : decode cX10_expression 8 = .ok (.aload_n 0, 1) := by decide +kernel
theorem dX10_expression_9 : decode cX10_expression 9 = .ok (.iconst 0, 1) := by decide +kernel
theorem dX10_expression_10 : decode cX10_expression 10 = .ok (.putfield 278, 3) := by decide +kernel
theorem dX10_expression_13 : decode cX10_expression 13 = .ok (.aload_n 0, 1) := by decide +kernel
theorem dX10_expression_14 : decode cX10_expression 14 = .ok (.iconst 0, 1) := by decide +kernel
theorem dX10_expression_15 : decode cX10_expression 15 = .ok (.putfield 290, 3) := by decide +kernel
theorem dX10_expression_18 : decode cX10_expression 18 = .ok (.aload_n 0, 1) := by decide +kernel
theorem dX10_expression_19 : decode cX10_expression 19 = .ok (.invokevirtual 299, 3) := by decide +kernel
theorem dX10_expression_22 : decode cX10_expression 22 = .ok (.aload_n 0, 1) := by decide +kernel
theorem dX10_expression_23 : decode cX10_expression 23 = .ok (.iconst 1, 1) := by decide +kernel
theorem dX10_expression_24 : decode cX10_expression 24 = .ok (.invokevirtual 307, 3) := by decide +kernel
theorem dX10_expression_27 : decode cX10_expression 27 = .ok (.iconst 1, 1) := by decide +kernel
theorem dX10_expression_28 : decode cX10_expression 28 = .ok (.istore_n 1, 1) := by decide +kernel
theorem dX10_expression_29 : decode cX10_expression 29 = .ok (.iload_n 1, 1) := by decide +kernel
theorem dX10_expression_30 : decode cX10_expression 30 = .ok (.ifCond .eq 295, 3) := by decide +kernel
theorem dX10_expression_33 : decode cX10_expression 33 = .ok (.aload_n 0, 1) := by decide +kernel
theorem dX10_expression_34 : decode cX10_expression 34 = .ok (.invokevirtual 252, 3) := by decide +kernel
theorem dX10_expression_37 : decode cX10_expression 37 = .ok (.ifCond .eq 288, 3) := by decide +kernel
theorem dX10_expression_40 : decode cX10_expression 40 = .ok (.aload_n 0, 1) := by decide +kernel
theorem dX10_expression_41 : decode cX10_expression 41 = .ok (.invokevirtual 262, 3) := by decide +kernel
theorem dX10_expression_44 : decode cX10_expression 44 = .ok (.istore_n 2, 1) := by decide +kernel
theorem dX10_expression_45 : decode cX10_expression 45 = .ok (.iload_n 2, 1) := by decide +kernel
theorem dX10_expression_46 : decode cX10_expression 46 = .ok (.bipush 10, 2) := by decide +kernel
theorem dX10_expression_48 : decode cX10_expression 48 = .ok (.if_icmp .eq 9, 3) := by decide +kernel
theorem dX10_expression_51 : decode cX10_expression 51 = .ok (.iload_n 2, 1) := by decide +kernel
theorem dX10_expression_52 : decode cX10_expression 52 = .ok (.bipush 11, 2) := by decide +kernel
theorem dX10_expression_54 : decode cX10_expression 54 = .ok (.if_icmp .ne 55, 3) := by decide +kernel
theorem dX10_expression_57 : decode cX10_expression 57 = .ok (.aload_n 0, 1) := by decide +kernel
theorem dX10_expression_58 : decode cX10_expression 58 = .ok (.iload_n 2, 1) := by decide +kernel
theorem dX10_expression_59 : decode cX10_expression 59 = .ok (.bipush 10, 2) := by decide +kernel
theorem dX10_expression_61 : decode cX10_expression 61 = .ok (.if_icmp .ne 7, 3) := by decide +kernel
theorem dX10_expression_64 : decode cX10_expression 64 = .ok (.iconst 2, 1) := by decide +kernel
theorem dX10_expression_65 : decode cX10_expression 65 = .ok (.goto 4, 3) := by decide +kernel
theorem dX10_expression_68 : decode cX10_expression 68 = .ok (.iconst 1, 1) := by decide +kernel
theorem dX10_expression_69 : decode cX10_expression 69 = .ok (.invokevirtual 304, 3) := by decide +kernel
theorem dX10_expression_72 : decode cX10_expression 72 = .ok (.aload_n 0, 1) := by decide +kernel
theorem dX10_expression_73 : decode cX10_expression 73 = .ok (.iload_n 2, 1) := by decide +kernel
theorem dX10_expression_74 : decode cX10_expression 74 = .ok (.bipush 10, 2) := by decide +kernel
theorem dX10_expression_76 : decode cX10_expression 76 = .ok (.if_icmp .ne 7, 3) := by decide +kernel
theorem dX10_expression_79 : decode cX10_expression 79 = .ok (.iconst 4, 1) := by decide +kernel
theorem dX10_expression_80 : decode cX10_expression 80 = .ok (.goto 4, 3) := by decide +kernel
theorem dX10_expression_83 : decode cX10_expression 83 = .ok (.iconst 5, 1) := by decide +kernel
theorem dX10_expression_84 : decode cX10_expression 84 = .ok (.invokevirtual 296, 3) := by decide +kernel
theorem dX10_expression_87 : decode cX10_expression 87 = .ok (.aload_n 0, 1) := by decide +kernel
theorem dX10_expression_88 : decode cX10_expression 88 = .ok (.getfield 80, 3) := by decide +kernel
theorem dX10_expression_91 : decode cX10_expression 91 = .ok (.aload_n 0, 1) := by decide +kernel
theorem dX10_expression_92 : decode cX10_expression 92 = .ok (.getfield 290, 3) := by decide +kernel
theorem dX10_expression_95 : decode cX10_expression 95 = .ok (.iconst 0, 1) := by decide +kernel
theorem dX10_expression_96 : decode cX10_expression 96 = .ok (.bastore, 1) := by decide +kernel
theorem dX10_expression_97 : decode cX10_expression 97 = .ok (.aload_n 0, 1) := by decide +kernel
theorem dX10_expression_98 : decode cX10_expression 98 = .ok (.invokevirtual 256, 3) := by decide +kernel
theorem dX10_expression_101 : decode cX10_expression 101 = .ok (.aload_n 0, 1) := by decide +kernel
theorem dX10_expression_102 : decode cX10_expression 102 = .ok (.iconst 1, 1) := by decide +kernel
theorem dX10_expression_103 : decode cX10_expression 103 = .ok (.invokevirtual 307, 3) := by decide +kernel
theorem dX10_expression_106 : decode cX10_expression 106 = .ok (.goto 216, 3) := by decide +kernel
theorem dX10_expression_109 : decode cX10_expression 109 = .ok (.aload_n 0, 1) := by decide +kernel
theorem dX10_expression_110 : decode cX10_expression 110 = .ok (.bipush 60, 2) := by decide +kernel
theorem dX10_expression_112 : decode cX10_expression 112 = .ok (.invokevirtual 293, 3) := by decide +kernel
theorem dX10_expression_115 : decode cX10_expression 115 = .ok (.ifCond .ne 12, 3) := by decide +kernel
theorem dX10_expression_118 : decode cX10_expression 118 = .ok (.aload_n 0, 1) := by decide +kernel
theorem dX10_expression_119 : decode cX10_expression 119 = .ok (.bipush 61, 2) := by decide +kernel
theorem dX10_expression_121 : decode cX10_expression 121 = .ok (.invokevirtual 293, 3) := by decide +kernel
theorem dX10_expression_124 : decode cX10_expression 124 = .ok (.ifCond .eq 62, 3) := by decide +kernel
theorem dX10_expression_127 : decode cX10_expression 127 = .ok (.aload_n 0, 1) := by decide +kernel
theorem dX10_expression_128 : decode cX10_expression 128 = .ok (.getfield 80, 3) := by decide +kernel
theorem dX10_expression_131 : decode cX10_expression 131 = .ok (.aload_n 0, 1) := by decide +kernel
theorem dX10_expression_132 : decode cX10_expression 132 = .ok (.getfield 290, 3) := by decide +kernel
theorem dX10_expression_135 : decode cX10_expression 135 = .ok (.baload, 1) := by decide +kernel
theorem dX10_expression_136 : decode cX10_expression 136 = .ok (.ifCond .ne 50, 3) := by decide +kernel
theorem dX10_expression_139 : decode cX10_expression 139 = .ok (.aload_n 0, 1) := by decide +kernel
theorem dX10_expression_140 : decode cX10_expression 140 = .ok (.iconst 4, 1) := by decide +kernel
theorem dX10_expression_141 : decode cX10_expression 141 = .ok (.invokevirtual 304, 3) := by decide +kernel
theorem dX10_expression_144 : decode cX10_expression 144 = .ok (.aload_n 0, 1) := by decide +kernel
theorem dX10_expression_145 : decode cX10_expression 145 = .ok (.aload_n 0, 1) := by decide +kernel
theorem dX10_expression_146 : decode cX10_expression 146 = .ok (.bipush 60, 2) := by decide +kernel
theorem dX10_expression_148 : decode cX10_expression 148 = .ok (.invokevirtual 293, 3) := by decide +kernel
theorem dX10_expression_151 : decode cX10_expression 151 = .ok (.ifCond .eq 8, 3) := by decide +kernel
theorem dX10_expression_154 : decode cX10_expression 154 = .ok (.bipush 6, 2) := by decide +kernel
theorem dX10_expression_156 : decode cX10_expression 156 = .ok (.goto 5, 3) := by decide +kernel
theorem dX10_expression_159 : decode cX10_expression 159 = .ok (.bipush 7, 2) := by decide +kernel
theorem dX10_expression_161 : decode cX10_expression 161 = .ok (.invokevirtual 296, 3) := by decide +kernel
theorem dX10_expression_164 : decode cX10_expression 164 = .ok (.aload_n 0, 1) := by decide +kernel
theorem dX10_expression_165 : decode cX10_expression 165 = .ok (.getfield 80, 3) := by decide +kernel
theorem dX10_expression_168 : decode cX10_expression 168 = .ok (.aload_n 0, 1) := by decide +kernel
theorem dX10_expression_169 : decode cX10_expression 169 = .ok (.getfield 290, 3) := by decide +kernel
theorem dX10_expression_172 : decode cX10_expression 172 = .ok (.iconst 1, 1) := by decide +kernel
theorem dX10_expression_173 : decode cX10_expression 173 = .ok (.bastore, 1) := by decide +kernel
theorem dX10_expression_174 : decode cX10_expression 174 = .ok (.aload_n 0, 1) := by decide +kernel
theorem dX10_expression_175 : decode cX10_expression 175 = .ok (.invokevirtual 256, 3) := by decide +kernel
theorem dX10_expression_178 : decode cX10_expression 178 = .ok (.aload_n 0, 1) := by decide +kernel
theorem dX10_expression_179 : decode cX10_expression 179 = .ok (.iconst 0, 1) := by decide +kernel
theorem dX10_expression_180 : decode cX10_expression 180 = .ok (.invokevirtual 307, 3) := by decide +kernel
theorem dX10_expression_183 : decode cX10_expression 183 = .ok (.goto 139, 3) := by decide +kernel
theorem dX10_expression_186 : decode cX10_expression 186 = .ok (.aload_n 0, 1) := by decide +kernel
theorem dX10_expression_187 : decode cX10_expression 187 = .ok (.bipush 43, 2) := by decide +kernel
theorem dX10_expression_189 : decode cX10_expression 189 = .ok (.invokevirtual 293, 3) := by decide +kernel
theorem dX10_expression_192 : decode cX10_expression 192 = .ok (.ifCond .ne 12, 3) := by decide +kernel
theorem dX10_expression_195 : decode cX10_expression 195 = .ok (.aload_n 0, 1) := by decide +kernel
theorem dX10_expression_196 : decode cX10_expression 196 = .ok (.bipush 45, 2) := by decide +kernel
theorem dX10_expression_198 : decode cX10_expression 198 = .ok (.invokevirtual 293, 3) := by decide +kernel
theorem dX10_expression_201 : decode cX10_expression 201 = .ok (.ifCond .eq 40, 3) := by decide +kernel
theorem dX10_expression_204 : decode cX10_expression 204 = .ok (.aload_n 0, 1) := by decide +kernel
theorem dX10_expression_205 : decode cX10_expression 205 = .ok (.iconst 5, 1) := by decide +kernel
theorem dX10_expression_206 : decode cX10_expression 206 = .ok (.invokevirtual 304, 3) := by decide +kernel
theorem dX10_expression_209 : decode cX10_expression 209 = .ok (.aload_n 0, 1) := by decide +kernel
theorem dX10_expression_210 : decode cX10_expression 210 = .ok (.aload_n 0, 1) := by decide +kernel
theorem dX10_expression_211 : decode cX10_expression 211 = .ok (.bipush 43, 2) := by decide +kernel
theorem dX10_expression_213 : decode cX10_expression 213 = .ok (.invokevirtual 293, 3) := by decide +kernel
theorem dX10_expression_216 : decode cX10_expression 216 = .ok (.ifCond .eq 8, 3) := by decide +kernel
theorem dX10_expression_219 : decode cX10_expression 219 = .ok (.bipush 8, 2) := by decide +kernel
theorem dX10_expression_221 : decode cX10_expression 221 = .ok (.goto 5, 3) := by decide +kernel
theorem dX10_expression_224 : decode cX10_expression 224 = .ok (.bipush 9, 2) := by decide +kernel
theorem dX10_expression_226 : decode cX10_expression 226 = .ok (.invokevirtual 296, 3) := by decide +kernel
theorem dX10_expression_229 : decode cX10_expression 229 = .ok (.aload_n 0, 1) := by decide +kernel
theorem dX10_expression_230 : decode cX10_expression 230 = .ok (.invokevirtual 256, 3) := by decide +kernel
theorem dX10_expression_233 : decode cX10_expression 233 = .ok (.aload_n 0, 1) := by decide +kernel
theorem dX10_expression_234 : decode cX10_expression 234 = .ok (.iconst 0, 1) := by decide +kernel
theorem dX10_expression_235 : decode cX10_expression 235 = .ok (.invokevirtual 307, 3) := by decide +kernel
theorem dX10_expression_238 : decode cX10_expression 238 = .ok (.goto 84, 3) := by decide +kernel
theorem dX10_expression_241 : decode cX10_expression 241 = .ok (.aload_n 0, 1) := by decide +kernel
theorem dX10_expression_242 : decode cX10_expression 242 = .ok (.bipush 42, 2) := by decide +kernel
theorem dX10_expression_244 : decode cX10_expression 244 = .ok (.invokevirtual 293, 3) := by decide +kernel
theorem dX10_expression_247 : decode cX10_expression 247 = .ok (.ifCond .ne 12, 3) := by decide +kernel
theorem dX10_expression_250 : decode cX10_expression 250 = .ok (.aload_n 0, 1) := by decide +kernel
theorem dX10_expression_251 : decode cX10_expression 251 = .ok (.bipush 47, 2) := by decide +kernel
theorem dX10_expression_253 : decode cX10_expression 253 = .ok (.invokevirtual 293, 3) := by decide +kernel
theorem dX10_expression_256 : decode cX10_expression 256 = .ok (.ifCond .eq 41, 3) := by decide +kernel
theorem dX10_expression_259 : decode cX10_expression 259 = .ok (.aload_n 0, 1) := by decide +kernel
theorem dX10_expression_260 : decode cX10_expression 260 = .ok (.bipush 6, 2) := by decide +kernel
theorem dX10_expression_262 : decode cX10_expression 262 = .ok (.invokevirtual 304, 3) := by decide +kernel
theorem dX10_expression_265 : decode cX10_expression 265 = .ok (.aload_n 0, 1) := by decide +kernel
theorem dX10_expression_266 : decode cX10_expression 266 = .ok (.aload_n 0, 1) := by decide +kernel
theorem dX10_expression_267 : decode cX10_expression 267 = .ok (.bipush 42, 2) := by decide +kernel
theorem dX10_expression_269 : decode cX10_expression 269 = .ok (.invokevirtual 293, 3) := by decide +kernel
theorem dX10_expression_272 : decode cX10_expression 272 = .ok (.ifCond .eq 8, 3) := by decide +kernel
theorem dX10_expression_275 : decode cX10_expression 275 = .ok (.bipush 10, 2) := by decide +kernel
theorem dX10_expression_277 : decode cX10_expression 277 = .ok (.goto 5, 3) := by decide +kernel
theorem dX10_expression_280 : decode cX10_expression 280 = .ok (.bipush 11, 2) := by decide +kernel
theorem dX10_expression_282 : decode cX10_expression 282 = .ok (.invokevirtual 296, 3) := by decide +kernel
theorem dX10_expression_285 : decode cX10_expression 285 = .ok (.aload_n 0, 1) := by decide +kernel
theorem dX10_expression_286 : decode cX10_expression 286 = .ok (.invokevirtual 256, 3) := by decide +kernel
theorem dX10_expression_289 : decode cX10_expression 289 = .ok (.aload_n 0, 1) := by decide +kernel
theorem dX10_expression_290 : decode cX10_expression 290 = .ok (.iconst 0, 1) := by decide +kernel
theorem dX10_expression_291 : decode cX10_expression 291 = .ok (.invokevirtual 307, 3) := by decide +kernel
theorem dX10_expression_294 : decode cX10_expression 294 = .ok (.goto 28, 3) := by decide +kernel
theorem dX10_expression_297 : decode cX10_expression 297 = .ok (.aload_n 0, 1) := by decide +kernel
theorem dX10_expression_298 : decode cX10_expression 298 = .ok (.bipush 41, 2) := by decide +kernel
theorem dX10_expression_300 : decode cX10_expression 300 = .ok (.invokevirtual 293, 3) := by decide +kernel
theorem dX10_expression_303 : decode cX10_expression 303 = .ok (.ifCond .eq 17, 3) := by decide +kernel
theorem dX10_expression_306 : decode cX10_expression 306 = .ok (.aload_n 0, 1) := by decide +kernel
theorem dX10_expression_307 : decode cX10_expression 307 = .ok (.invokevirtual 311, 3) := by decide +kernel
theorem dX10_expression_310 : decode cX10_expression 310 = .ok (.ifCond .eq 10, 3) := by decide +kernel
theorem dX10_expression_313 : decode cX10_expression 313 = .ok (.aload_n 0, 1) := by decide +kernel
theorem dX10_expression_314 : decode cX10_expression 314 = .ok (.invokevirtual 314, 3) := by decide +kernel
theorem dX10_expression_317 : decode cX10_expression 317 = .ok (.goto 5, 3) := by decide +kernel
theorem dX10_expression_320 : decode cX10_expression 320 = .ok (.iconst 0, 1) := by decide +kernel
theorem dX10_expression_321 : decode cX10_expression 321 = .ok (.istore_n 1, 1) := by decide +kernel
theorem dX10_expression_322 : decode cX10_expression 322 = .ok (.goto (-293), 3) := by decide +kernel
theorem dX10_expression_325 : decode cX10_expression 325 = .ok (.aload_n 0, 1) := by decide +kernel
theorem dX10_expression_326 : decode cX10_expression 326 = .ok (.invokevirtual 252, 3) := by decide +kernel
theorem dX10_expression_329 : decode cX10_expression 329 = .ok (.ifCond .eq 16, 3) := by decide +kernel
theorem dX10_expression_332 : decode cX10_expression 332 = .ok (.aload_n 0, 1) := by decide +kernel
theorem dX10_expression_333 : decode cX10_expression 333 = .ok (.getfield 290, 3) := by decide +kernel
theorem dX10_expression_336 : decode cX10_expression 336 = .ok (.iconst 1, 1) := by decide +kernel
theorem dX10_expression_337 : decode cX10_expression 337 = .ok (.if_icmp .le 8, 3) := by decide +kernel
theorem dX10_expression_340 : decode cX10_expression 340 = .ok (.aload_n 0, 1) := by decide +kernel
theorem dX10_expression_341 : decode cX10_expression 341 = .ok (.iconst 1, 1) := by decide +kernel
theorem dX10_expression_342 : decode cX10_expression 342 = .ok (.invokevirtual 259, 3) := by decide +kernel
theorem dX10_expression_345 : decode cX10_expression 345 = .ok (.aload_n 0, 1) := by decide +kernel
theorem dX10_expression_346 : decode cX10_expression 346 = .ok (.iconst 0, 1) := by decide +kernel
theorem dX10_expression_347 : decode cX10_expression 347 = .ok (.invokevirtual 304, 3) := by decide +kernel
theorem dX10_expression_350 : decode cX10_expression 350 = .ok (.aload_n 0, 1) := by decide +kernel
theorem dX10_expression_351 : decode cX10_expression 351 = .ok (.iconst 0, 1) := by decide +kernel
theorem dX10_expression_352 : decode cX10_expression 352 = .ok (.invokevirtual 272, 3) := by decide +kernel
theorem dX10_expression_355 : decode cX10_expression 355 = .ok (.return_, 1) := by decide +kernel

set_option maxHeartbeats 4000000 in
set_option maxRecDepth 100000 in
theorem w_exB {m h : Nat} {T : RT} {a0 : Nat} {C0 : Nat → Int32} {n : Nat} {kd : mK} {P : mP} {I0 : mI} {J0 : mJ} {C9 : Cf} {I : mI} {J : mJ} {mo z2 : Option Value} (hM : kM kd P m) (hC9 : C9.1 = 3) (hB : eB m T I C9.2.1 C9.2.2.1) (hf : eFr m I0 I J0 J) : Ru yX10_expression.cls cX10_expression 3 none yX10_expression.name 11 ((fun z n' kd' I' J' P' => z = .inl none ∧ n' = n ∧ kd' = kd ∧ P' = P ∧ eFr m I0 I' J0 J' ∧ (C9.1 = 3 → eX m T I' C9.2.1 C9.2.2.1) ∧ (C9.1 = 4 → eF m h T a0 C0 I' J' C9.2.2.1 C9.2.2.2.1))) 0 0 325 [some (.ref m), mo, z2] [] n kd I J P := by
  refine r_aload_n dX10_expression_325 rfl ?_
  refine r_virtE (c_good m hM) lk_X10_252 mc_X10_isGood dX10_expression_326 (kM_0 hM) (by decide) rfl rfl (Nat.le_of_ble_eq_true rfl) ?_
  rw [hB.bad]
  refine r_if_eq (tgt := 345) dX10_expression_329 (by decide) (fun _ => ?_) (fun hz => absurd (show _ from rfl) hz)
  refine r_aload_n dX10_expression_345 rfl ?_
  refine r_iconst (v := nI 0) dX10_expression_346 (by decide) ?_
  obtain ⟨b1, b2, b3, t9, w9, b4, b5, b6, b7⟩ := hB
  refine r_virt (kc2 := 0) (ks2 := 0) (c_dropsB hM b5 b4 (by omega) (by omega)) lk_X10_304 mc_X10_drops dX10_expression_347 (kM_0 hM) (by decide) rfl rfl (Nat.le_of_ble_eq_true rfl) (by decide) (by decide) (fun _ _ _ _ _ _ h => nomatch h.1) ?_
  rintro v8 n8 kd8 I8 J8 P8 ⟨h00, rfl, rfl, rfl, rfl, hf8, t2, ht2, htl⟩
  cases h00
  simp only [Option.toList, List.nil_append]
  refine r_aload_n dX10_expression_350 rfl ?_
  refine r_iconst (v := nI 0) dX10_expression_351 (by decide) ?_
  refine r_virtV (c_puI m t2 (nI 0) hM ht2 (by omega)) lk_X10_272 mc_X10_puts dX10_expression_352 (kM_0 hM) (by decide) rfl rfl (Nat.le_of_ble_eq_true rfl) ?_
  refine r_vret rfl dX10_expression_355 ?_
  exact ⟨rfl, rfl, rfl, rfl, (hf.tr hf8.e).tr eFr.pu, fun _ => ⟨by rw [puI_fr.2 16 (by decide) (by decide), hf8.2 16 (by decide) (by decide)]; exact b1, b2, by rw [puI_fr.2 17 (by decide) (by decide), hf8.2 17 (by decide) (by decide)]; exact b3⟩, fun q => absurd (hC9.symm.trans q) (by decide)⟩

set_option maxHeartbeats 4000000 in
set_option maxRecDepth 100000 in
theorem w_exB29 {m h : Nat} {T : RT} {a0 : Nat} {C0 : Nat → Int32} {n : Nat} {kd : mK} {P : mP} {I0 : mI} {J0 : mJ} {C9 : Cf} {I : mI} {J : mJ} {z2 : Option Value} (hM : kM kd P m) (hC9 : C9.1 = 3) (hB : eB m T I C9.2.1 C9.2.2.1) (hf : eFr m I0 I J0 J) : Ru yX10_expression.cls cX10_expression 3 none yX10_expression.name 11 ((fun z n' kd' I' J' P' => z = .inl none ∧ n' = n ∧ kd' = kd ∧ P' = P ∧ eFr m I0 I' J0 J' ∧ (C9.1 = 3 → eX m T I' C9.2.1 C9.2.2.1) ∧ (C9.1 = 4 → eF m h T a0 C0 I' J' C9.2.2.1 C9.2.2.2.1))) 0 0 29 [some (.ref m), some (.int (nI 1)), z2] [] n kd I J P := by
  refine r_iload_n dX10_expression_29 rfl ?_
  refine r_if_eq (tgt := 325) dX10_expression_30 (by decide) (fun hz => absurd hz (show ¬ _ from (by decide))) (fun _ => ?_)
  refine r_aload_n dX10_expression_33 rfl ?_
  refine r_virtE (c_good m hM) lk_X10_252 mc_X10_isGood dX10_expression_34 (kM_0 hM) (by decide) rfl rfl (Nat.le_of_ble_eq_true rfl) ?_
  rw [hB.bad]
  refine r_if_eq (tgt := 325) dX10_expression_37 (by decide) (fun _ => ?_) (fun hz => absurd (show _ from rfl) hz)
  exact w_exB hM hC9 hB hf

set_option maxHeartbeats 4000000 in
set_option maxRecDepth 100000 in
theorem w_exE {m h : Nat} {T : RT} {a0 : Nat} {C0 : Nat → Int32} {n : Nat} {kd : mK} {P : mP} {I0 : mI} {J0 : mJ} {C9 : Cf} {c i : Nat} {out w : List Nat} {te : Nat → Bool} {I : mI} {J : mJ} {z2 : Option Value} (hM : kM kd P m) (hT : tkA T) (hC9 : C9 = if 0 < opens w then (3, 1, i, out, w, te) else (4, 0, i, out ++ (drpW 0 w).1, (drpW 0 w).2, te)) (hg : eG m h T a0 C0 0 I J i out w te) (hf : eFr m I0 I J0 J) : Ru yX10_expression.cls cX10_expression 3 none yX10_expression.name 11 ((fun z n' kd' I' J' P' => z = .inl none ∧ n' = n ∧ kd' = kd ∧ P' = P ∧ eFr m I0 I' J0 J' ∧ (C9.1 = 3 → eX m T I' C9.2.1 C9.2.2.1) ∧ (C9.1 = 4 → eF m h T a0 C0 I' J' C9.2.2.1 C9.2.2.2.1))) 0 0 29 [some (.ref m), some (.int (nI 0)), z2] [] n kd I J P := by
  have hg0 := hg
  obtain ⟨⟨h16, h27, hgi⟩, ⟨hk, hi⟩, ⟨top, hC, hb⟩, h29, hW, hwi, hD⟩ := hg
  have h501 := hT.1.1.1
  by_cases ho : 0 < opens w
  · rw [if_pos ho] at hC9
    have hB := hg0.wrong hT (by decide) (f := 1) (by decide) (by decide)
    have hf2 : eFr m I0 (wrI m (nI 1) I) J0 J := hf.tr eFr.wr
    refine r_iload_n dX10_expression_29 rfl ?_
    refine r_if_eq (tgt := 325) dX10_expression_30 (by decide) (fun _ => ?_) (fun hz => absurd (show _ from rfl) hz)
    refine r_aload_n dX10_expression_325 rfl ?_
    refine r_virtE (c_good m hM) lk_X10_252 mc_X10_isGood dX10_expression_326 (kM_0 hM) (by decide) rfl rfl (Nat.le_of_ble_eq_true rfl) ?_
    rw [h16, show decide (nI 0 = 0) = true from rfl]
    refine r_if_eq (tgt := 345) dX10_expression_329 (by decide) (fun hz => absurd hz (show ¬ _ from (by decide))) (fun _ => ?_)
    refine r_aload_n dX10_expression_332 rfl ?_
    refine r_getI dX10_expression_333 fl_X10_290 rfl (kM_0 hM) ?_
    rw [hD.1]
    refine r_iconst (v := nI 1) dX10_expression_336 (by decide) ?_
    refine r_icmp_le (tgt := 345) dX10_expression_337 (by decide) (fun hz => absurd hz (show ¬ _ from (by have := hD.2.1; rw [nI_leI (by omega) (by omega)]; omega))) (fun _ => ?_)
    refine r_aload_n dX10_expression_340 rfl ?_
    refine r_iconst (v := nI 1) dX10_expression_341 (by decide) ?_
    refine r_virtV (c_wrong m (nI 1) hM) lk_X10_259 mc_X10_wrong dX10_expression_342 (kM_0 hM) (by decide) rfl rfl (Nat.le_of_ble_eq_true rfl) ?_
    refine r_aload_n dX10_expression_345 rfl ?_
    refine r_iconst (v := nI 0) dX10_expression_346 (by decide) ?_
    obtain ⟨b1, b2, b3, t9, w9, b4, b5, b6, b7⟩ := hB
    refine r_virt (kc2 := 0) (ks2 := 0) (c_dropsB hM b5 b4 (by omega) (by omega)) lk_X10_304 mc_X10_drops dX10_expression_347 (kM_0 hM) (by decide) rfl rfl (Nat.le_of_ble_eq_true rfl) (by decide) (by decide) (fun _ _ _ _ _ _ h => nomatch h.1) ?_
    rintro v8 n8 kd8 I8 J8 P8 ⟨h00, rfl, rfl, rfl, rfl, hf8, t2, ht2, htl⟩
    cases h00
    simp only [Option.toList, List.nil_append]
    refine r_aload_n dX10_expression_350 rfl ?_
    refine r_iconst (v := nI 0) dX10_expression_351 (by decide) ?_
    refine r_virtV (c_puI m t2 (nI 0) hM ht2 (by omega)) lk_X10_272 mc_X10_puts dX10_expression_352 (kM_0 hM) (by decide) rfl rfl (Nat.le_of_ble_eq_true rfl) ?_
    refine r_vret rfl dX10_expression_355 ?_
    rw [hC9]
    exact ⟨rfl, rfl, rfl, rfl, (hf2.tr hf8.e).tr eFr.pu, fun _ => ⟨by rw [puI_fr.2 16 (by decide) (by decide), hf8.2 16 (by decide) (by decide)]; exact b1, b2, by rw [puI_fr.2 17 (by decide) (by decide), hf8.2 17 (by decide) (by decide)]; exact b3⟩, fun q => absurd q (by show ¬ (3 : Nat) = 4; decide)⟩
  · rw [if_neg ho] at hC9
    have hr0 : (drpW 0 w).2 = [] := by
      cases hr : (drpW 0 w).2 with
      | nil => rfl
      | cons x t =>
        exfalso
        have h1 := (drpW_op 0 w).1
        have key : ∀ w : List Nat, opens w = 0 → (drpW 0 w).2 = [] := by
          intro w
          induction w with
          | nil => intro _; rfl
          | cons y u ih =>
            intro hy
            have hy : (if y = 0 then 1 else 0) + opens u = 0 := hy
            by_cases q : y = 0
            · rw [if_pos q] at hy; omega
            · rw [if_neg q] at hy
              show (if ¬ y = 0 ∧ 0 ≤ stN y then (y :: (drpW 0 u).1, (drpW 0 u).2) else ([], y :: u)).2 = []
              rw [if_pos ⟨q, Nat.zero_le _⟩]
              exact ih (by omega)
        rw [key w (by omega)] at hr
        cases hr
    refine r_iload_n dX10_expression_29 rfl ?_
    refine r_if_eq (tgt := 325) dX10_expression_30 (by decide) (fun _ => ?_) (fun hz => absurd (show _ from rfl) hz)
    refine r_aload_n dX10_expression_325 rfl ?_
    refine r_virtE (c_good m hM) lk_X10_252 mc_X10_isGood dX10_expression_326 (kM_0 hM) (by decide) rfl rfl (Nat.le_of_ble_eq_true rfl) ?_
    rw [h16, show decide (nI 0 = 0) = true from rfl]
    refine r_if_eq (tgt := 345) dX10_expression_329 (by decide) (fun hz => absurd hz (show ¬ _ from (by decide))) (fun _ => ?_)
    refine r_aload_n dX10_expression_332 rfl ?_
    refine r_getI dX10_expression_333 fl_X10_290 rfl (kM_0 hM) ?_
    rw [hD.1]
    refine r_iconst (v := nI 1) dX10_expression_336 (by decide) ?_
    refine r_icmp_le (tgt := 345) dX10_expression_337 (by decide) (fun _ => ?_) (fun hz => absurd (show _ from (by have := hD.2.1; rw [nI_leI (by omega) (by omega)]; omega)) hz)
    refine r_aload_n dX10_expression_345 rfl ?_
    refine r_iconst (v := nI 0) dX10_expression_346 (by decide) ?_
    refine r_virt (kc2 := 0) (ks2 := 0) (c_dropsG m h 0 i hM hT (by decide) hg0) lk_X10_304 mc_X10_drops dX10_expression_347 (kM_0 hM) (by decide) rfl rfl (Nat.le_of_ble_eq_true rfl) (by decide) (by decide) (fun _ _ _ _ _ _ h => nomatch h.1) ?_
    rintro v8 n8 kd8 I8 J8 P8 ⟨h00, rfl, rfl, rfl, rfl, hf8, hg8⟩
    cases h00
    simp only [Option.toList, List.nil_append]
    rw [hr0] at hg8
    obtain ⟨⟨g16, g27, ggi⟩, ⟨gk, gi⟩, ⟨t8, gC, gb⟩, g29, gW, gwi, gD⟩ := hg8
    have gb : t8 + 0 + 4 ≤ 2 * i + 0 := gb
    refine r_aload_n dX10_expression_350 rfl ?_
    refine r_iconst (v := nI 0) dX10_expression_351 (by decide) ?_
    refine r_virtV (c_puI m t8 (nI 0) hM gC.1 (by omega)) lk_X10_272 mc_X10_puts dX10_expression_352 (kM_0 hM) (by decide) rfl rfl (Nat.le_of_ble_eq_true rfl) ?_
    refine r_vret rfl dX10_expression_355 ?_
    rw [hC9]
    refine ⟨rfl, rfl, rfl, rfl, (hf.tr hf8.e).tr eFr.pu, fun q => absurd q (by show ¬ (4 : Nat) = 3; decide), fun _ => ⟨⟨(puI_fr.2 _ (by decide) (by decide)).trans g16, (puI_fr.2 _ (by decide) (by decide)).trans g27, ggi.cg (puI_fr.2 _ (by decide) (by decide)) (puI_fr.1 _ (by omega) (by omega))⟩, ⟨gk.cg (fun j h1 h2 => puI_fr.2 j (by omega) (by omega)) rfl, gi⟩, ⟨t8, puI_30, ?_, fun k hk2 => ?_, gC.2.2.2, by omega⟩, (puI_fr.2 _ (by decide) (by decide)).trans g29⟩⟩
    · intro Cd hCd
      exact rcT_end _ _ _ (rcT_cg _ _ _ (fun k k1 k2 => by rw [hCd k (by omega), puI_20, am_up_n _ _ (by omega)]) gC.2.1) (by omega) (by rw [hCd t8 (by omega), puI_20, am_up_s])
    · rw [puI_20, am_up_n _ _ (by have := gC.2.2.2; omega)]
      exact gC.2.2.1 k hk2

theorem kwI_ne {k : Int32} {v : Nat} {kd : Nat} (hv : (v = 10 ∧ kd = 134) ∨ (v = 11 ∧ kd = 133)) (h : ¬ k = nI kd) : ¬ kwI k = nI v := by
  unfold kwI
  by_cases a : k = nI 136
  · rw [if_pos a]; rcases hv with ⟨rfl, -⟩ | ⟨rfl, -⟩ <;> decide
  rw [if_neg a]
  by_cases a : k = nI 137
  · rw [if_pos a]; rcases hv with ⟨rfl, -⟩ | ⟨rfl, -⟩ <;> decide
  rw [if_neg a]
  by_cases a : k = nI 138
  · rw [if_pos a]; rcases hv with ⟨rfl, -⟩ | ⟨rfl, -⟩ <;> decide
  rw [if_neg a]
  by_cases a : k = nI 139
  · rw [if_pos a]; rcases hv with ⟨rfl, -⟩ | ⟨rfl, -⟩ <;> decide
  rw [if_neg a]
  by_cases a : k = nI 140
  · rw [if_pos a]; rcases hv with ⟨rfl, -⟩ | ⟨rfl, -⟩ <;> decide
  rw [if_neg a]
  by_cases a : k = nI 129
  · rw [if_pos a]; rcases hv with ⟨rfl, -⟩ | ⟨rfl, -⟩ <;> decide
  rw [if_neg a]
  by_cases a : k = nI 141
  · rw [if_pos a]; rcases hv with ⟨rfl, -⟩ | ⟨rfl, -⟩ <;> decide
  rw [if_neg a]
  by_cases a : k = nI 130
  · rw [if_pos a]; rcases hv with ⟨rfl, -⟩ | ⟨rfl, -⟩ <;> decide
  rw [if_neg a]
  by_cases a : k = nI 131
  · rw [if_pos a]; rcases hv with ⟨rfl, -⟩ | ⟨rfl, -⟩ <;> decide
  rw [if_neg a]
  by_cases a : k = nI 132
  · rw [if_pos a]; rcases hv with ⟨rfl, -⟩ | ⟨rfl, -⟩ <;> decide
  rw [if_neg a]
  by_cases a : k = nI 134
  · rw [if_pos a]
    rcases hv with ⟨rfl, rfl⟩ | ⟨rfl, rfl⟩
    · exact absurd a h
    · decide
  rw [if_neg a]
  by_cases a : k = nI 133
  · rw [if_pos a]
    rcases hv with ⟨rfl, rfl⟩ | ⟨rfl, rfl⟩
    · decide
    · exact absurd a h
  rw [if_neg a]
  by_cases a : k = nI 135
  · rw [if_pos a]; rcases hv with ⟨rfl, -⟩ | ⟨rfl, -⟩ <;> decide
  · rw [if_neg a]; rcases hv with ⟨rfl, -⟩ | ⟨rfl, -⟩ <;> decide
theorem kwI_10 {k : Int32} (h : ¬ k = nI 134) : ¬ kwI k = nI 10 := kwI_ne (Or.inl ⟨rfl, rfl⟩) h
theorem kwI_11 {k : Int32} (h : ¬ k = nI 133) : ¬ kwI k = nI 11 := kwI_ne (Or.inr ⟨rfl, rfl⟩) h
set_option maxHeartbeats 16000000 in
set_option maxRecDepth 100000 in
theorem w_expr {m h : Nat} {T : RT} {a0 : Nat} {C0 : Nat → Int32} {n : Nat} {kd : mK} {P : mP} {I0 : mI} {J0 : mJ} {C9 : Cf} (hM : kM kd P m) (hT : tkA T) (hh : h < 8) : ∀ (N n9 c i : Nat) (out w : List Nat) (te : Nat → Bool) (z2 : Option Value) (I : mI) (J : mJ), n9 ≤ N → itr (stp T h) n9 (2, c, i, out, w, te) = C9 → (C9.1 = 3 ∨ C9.1 = 4) → eG m h T a0 C0 0 I J i out w te → eFr m I0 I J0 J → Ru yX10_expression.cls cX10_expression 3 none yX10_expression.name 11 ((fun z n' kd' I' J' P' => z = .inl none ∧ n' = n ∧ kd' = kd ∧ P' = P ∧ eFr m I0 I' J0 J' ∧ (C9.1 = 3 → eX m T I' C9.2.1 C9.2.2.1) ∧ (C9.1 = 4 → eF m h T a0 C0 I' J' C9.2.2.1 C9.2.2.2.1))) 0 0 29 [some (.ref m), some (.int (nI 1)), z2] [] n kd I J P
  | 0, n9, c, i, out, w, te, z2, I, J, hN, hit, h34, hg, hf => by
    have e0 : n9 = 0 := by omega
    subst e0
    rw [← hit] at h34
    exact absurd h34 (by show ¬ ((2 : Nat) = 3 ∨ (2 : Nat) = 4); decide)
  | N + 1, 0, c, i, out, w, te, z2, I, J, hN, hit, h34, hg, hf => by
    rw [← hit] at h34
    exact absurd h34 (by show ¬ ((2 : Nat) = 3 ∨ (2 : Nat) = 4); decide)
  | N + 1, n9 + 1, c, i, out, w, te, z2, I, J, hN, hit, h34, hg, hf => by
    have hit : itr (stp T h) n9 (stp T h (2, c, i, out, w, te)) = C9 := hit
    have hg0 := hg
    obtain ⟨⟨h16, h27, hgi⟩, ⟨hk, hi⟩, ⟨top, hC, hb⟩, h29, hW, hwi, hD⟩ := hg
    have h501 := hT.1.1.1
    by_cases c134 : tkK T i = nI 134
    · skip
      have hi2 : i + 1 < T.2.1 := hT.1.2.1 i (by rw [c134]; decide)
      have hs : stp T h (2, c, i, out, w, te) = (1, 0, i + 1, out ++ (drpW 2 w).1, 20010 :: (drpW 2 w).2, upT te (opens w + 1) false) := by rw [stp_A]; unfold stA; rw [if_pos c134]
      refine r_iload_n dX10_expression_29 rfl ?_
      refine r_if_eq (tgt := 325) dX10_expression_30 (by decide) (fun hz => absurd hz (show ¬ _ from (by decide))) (fun _ => ?_)
      refine r_aload_n dX10_expression_33 rfl ?_
      refine r_virtE (c_good m hM) lk_X10_252 mc_X10_isGood dX10_expression_34 (kM_0 hM) (by decide) rfl rfl (Nat.le_of_ble_eq_true rfl) ?_
      rw [h16, show decide (nI 0 = 0) = true from rfl]
      refine r_if_eq (tgt := 325) dX10_expression_37 (by decide) (fun hz => absurd hz (show ¬ _ from (by decide))) (fun _ => ?_)
      refine r_aload_n dX10_expression_40 rfl ?_
      refine r_virtE (c_known m (kwI (tkK T i)) hM hk.2.2.1.symm) lk_X10_262 mc_X10_knownWord dX10_expression_41 (kM_0 hM) (by decide) rfl rfl (Nat.le_of_ble_eq_true rfl) ?_
      rw [show kwI (tkK T i) = nI 10 from by rw [c134]; rfl]
      refine r_istore_n dX10_expression_44 (by decide) ?_
      refine r_iload_n dX10_expression_45 rfl ?_
      refine r_bipush (v := nI 10) dX10_expression_46 (by decide) ?_
      refine r_icmp_eq (tgt := 57) dX10_expression_48 (by decide) (fun _ => ?_) (fun hz => absurd (show _ from rfl) hz)
      refine r_aload_n dX10_expression_57 rfl ?_
      refine r_iload_n dX10_expression_58 rfl ?_
      refine r_bipush (v := nI 10) dX10_expression_59 (by decide) ?_
      refine r_icmp_ne (tgt := 68) dX10_expression_61 (by decide) (fun hz => absurd (show _ from rfl) hz) (fun _ => ?_)
      refine r_iconst (v := nI 2) dX10_expression_64 (by decide) ?_
      refine r_goto (tgt := 69) dX10_expression_65 (by decide) ?_
      refine r_virt (kc2 := 0) (ks2 := 0) (c_dropsG m h 2 i hM hT (by decide) hg0) lk_X10_304 mc_X10_drops dX10_expression_69 (kM_0 hM) (by decide) rfl rfl (Nat.le_of_ble_eq_true rfl) (by decide) (by decide) (fun _ _ _ _ _ _ h => nomatch h.1) ?_
      rintro v5 n5 kd5 I5 J5 P5 ⟨h00, rfl, rfl, rfl, rfl, hf5, hg5⟩
      cases h00
      simp only [Option.toList, List.nil_append]
      have hop5 := (drpW_op 2 w).1
      have hl5 : (drpW 2 w).2.length ≤ w.length := by have := drpW_len 2 w; omega
      refine r_aload_n dX10_expression_72 rfl ?_
      refine r_iload_n dX10_expression_73 rfl ?_
      refine r_bipush (v := nI 10) dX10_expression_74 (by decide) ?_
      refine r_icmp_ne (tgt := 83) dX10_expression_76 (by decide) (fun hz => absurd (show _ from rfl) hz) (fun _ => ?_)
      refine r_iconst (v := nI 4) dX10_expression_79 (by decide) ?_
      refine r_goto (tgt := 84) dX10_expression_80 (by decide) ?_
      refine r_virtV (c_waI m (drpW 2 w).2.length (opI 20010) hM hg5.2.2.2.2.1.1 (by omega)) lk_X10_296 mc_X10_waitsFor dX10_expression_84 (kM_0 hM) (by decide) rfl rfl (Nat.le_of_ble_eq_true rfl) ?_
      refine r_aload_n dX10_expression_87 rfl ?_
      refine r_getR dX10_expression_88 fl_X10_80 rfl (kM_0 hM) (pM_44 hM) ?_
      refine r_aload_n dX10_expression_91 rfl ?_
      refine r_getI dX10_expression_92 fl_X10_290 rfl (kM_0 hM) ?_
      rw [show waI m _ _ I5 m 32 = nI (opens w + 1) from by rw [waI_o (by decide), hg5.2.2.2.2.2.2.1, hop5]]
      refine r_iconst (v := nI 0) dX10_expression_95 (by decide) ?_
      refine r_zast dX10_expression_96 (aM_44 hM) (nI_in8 9 (by have := hD.2.1; omega) (by decide)) (nI_clamp (by have := hD.2.1; omega)) ?_
      rw [show va_up (waI m (drpW 2 w).2.length (opI 20010) I5) (m + 22) (va_up (waI m (drpW 2 w).2.length (opI 20010) I5 (m + 22)) (opens w + 1) (vp_nar .boolean (nI 0))) = teI m (opens (drpW 2 w).2 + 1) false (waI m (drpW 2 w).2.length (opI 20010) I5) from by rw [hop5]; rfl]
      refine r_aload_n dX10_expression_97 rfl ?_
      refine r_virt (kc2 := 0) (ks2 := 0) (c_goesT m i hM hT (hg5.1.2.2.cg (by rw [teI_m]; exact waI_o (by decide)) ((teI_a (by omega)).trans (waI_a (by omega) (by omega)))) (hg5.2.1.1.cg (fun j h1 h2 => by rw [teI_m]; exact waI_o (by omega)) rfl) hi2) lk_X10_256 mc_X10_goes dX10_expression_98 (kM_0 hM) (by decide) rfl rfl (Nat.le_of_ble_eq_true rfl) (by decide) (by decide) (fun _ _ _ _ _ _ h => nomatch h.1) ?_
      rintro v7 n7 kd7 I7 J7 P7 ⟨h00, rfl, rfl, rfl, hf7, hk7⟩
      cases h00
      simp only [Option.toList, List.nil_append]
      have hg7 := hg5.pushT (x := 20010) (by decide) hf7 hk7 hi2
      rw [hop5] at hg7
      refine r_aload_n dX10_expression_101 rfl ?_
      refine r_iconst (v := nI 1) dX10_expression_102 (by decide) ?_
      obtain ⟨k9, k1, k2, k3, k4⟩ := firstN (T := T) (h := h) n9 (stp T h (2, c, i, out, w, te)) (by rw [hs]; show (1 : Nat) < 2; decide) (by rw [hit]; omega)
      rw [hs] at k3 k4
      refine r_virt (kc2 := 0) (ks2 := 0) (c_oper k9 1 (i + 1) hM hT hh (by decide) k3 rfl k4 hg7) lk_X10_307 mc_X10_operand dX10_expression_103 (kM_0 hM) (by decide) rfl rfl (Nat.le_of_ble_eq_true rfl) (by decide) (by decide) (fun _ _ _ _ _ _ h => nomatch h.1) ?_
      rintro v8 n8 kd8 I8 J8 P8 ⟨h00, rfl, rfl, rfl, hf8, hr8⟩
      cases h00
      simp only [Option.toList, List.nil_append]
      have hmd := opRun_md k1 k3 k4
      have hit2 : itr (stp T h) (n9 - k9) (itr (stp T h) k9 (stp T h (2, c, i, out, w, te))) = C9 := by rw [← itr_split _ k2]; exact hit
      rw [hs] at hit2
      have hf99 := ((((hf.tr hf5.e).tr eFr.wa).tr eFr.te).tr hf7.e).tr hf8
      generalize itr (stp T h) k9 _ = C8 at hr8 hmd hit2
      refine r_goto (tgt := 322) dX10_expression_106 (by decide) ?_
      refine r_goto (tgt := 29) dX10_expression_322 (by decide) ?_
      rcases hmd with hm2 | hm3
      · obtain ⟨m8, c8, i8, o8, w8, t8⟩ := C8
        have hm2 : m8 = 2 := hm2
        subst hm2
        exact w_expr hM hT hh N (n9 - k9) c8 i8 o8 w8 t8 _ I8 J8 (by omega) hit2 h34 (hr8.1 rfl) hf99
      · rw [itr_end _ _ (by omega)] at hit2
        subst hit2
        exact w_exB29 hM hm3 (hr8.2 hm3) hf99
    by_cases c133 : tkK T i = nI 133
    · skip
      have hi2 : i + 1 < T.2.1 := hT.1.2.1 i (by rw [c133]; decide)
      have hs : stp T h (2, c, i, out, w, te) = (1, 0, i + 1, out ++ (drpW 1 w).1, 20011 :: (drpW 1 w).2, upT te (opens w + 1) false) := by rw [stp_A]; unfold stA; rw [if_neg (by rw [c133]; decide), if_pos c133]
      refine r_iload_n dX10_expression_29 rfl ?_
      refine r_if_eq (tgt := 325) dX10_expression_30 (by decide) (fun hz => absurd hz (show ¬ _ from (by decide))) (fun _ => ?_)
      refine r_aload_n dX10_expression_33 rfl ?_
      refine r_virtE (c_good m hM) lk_X10_252 mc_X10_isGood dX10_expression_34 (kM_0 hM) (by decide) rfl rfl (Nat.le_of_ble_eq_true rfl) ?_
      rw [h16, show decide (nI 0 = 0) = true from rfl]
      refine r_if_eq (tgt := 325) dX10_expression_37 (by decide) (fun hz => absurd hz (show ¬ _ from (by decide))) (fun _ => ?_)
      refine r_aload_n dX10_expression_40 rfl ?_
      refine r_virtE (c_known m (kwI (tkK T i)) hM hk.2.2.1.symm) lk_X10_262 mc_X10_knownWord dX10_expression_41 (kM_0 hM) (by decide) rfl rfl (Nat.le_of_ble_eq_true rfl) ?_
      rw [show kwI (tkK T i) = nI 11 from by rw [c133]; rfl]
      refine r_istore_n dX10_expression_44 (by decide) ?_
      refine r_iload_n dX10_expression_45 rfl ?_
      refine r_bipush (v := nI 10) dX10_expression_46 (by decide) ?_
      refine r_icmp_eq (tgt := 57) dX10_expression_48 (by decide) (fun hz => absurd hz (show ¬ _ from (by decide))) (fun _ => ?_)
      refine r_iload_n dX10_expression_51 rfl ?_
      refine r_bipush (v := nI 11) dX10_expression_52 (by decide) ?_
      refine r_icmp_ne (tgt := 109) dX10_expression_54 (by decide) (fun hz => absurd (show _ from rfl) hz) (fun _ => ?_)
      refine r_aload_n dX10_expression_57 rfl ?_
      refine r_iload_n dX10_expression_58 rfl ?_
      refine r_bipush (v := nI 10) dX10_expression_59 (by decide) ?_
      refine r_icmp_ne (tgt := 68) dX10_expression_61 (by decide) (fun _ => ?_) (fun hz => absurd hz (show ¬ _ from (by decide)))
      refine r_iconst (v := nI 1) dX10_expression_68 (by decide) ?_
      refine r_virt (kc2 := 0) (ks2 := 0) (c_dropsG m h 1 i hM hT (by decide) hg0) lk_X10_304 mc_X10_drops dX10_expression_69 (kM_0 hM) (by decide) rfl rfl (Nat.le_of_ble_eq_true rfl) (by decide) (by decide) (fun _ _ _ _ _ _ h => nomatch h.1) ?_
      rintro v5 n5 kd5 I5 J5 P5 ⟨h00, rfl, rfl, rfl, rfl, hf5, hg5⟩
      cases h00
      simp only [Option.toList, List.nil_append]
      have hop5 := (drpW_op 1 w).1
      have hl5 : (drpW 1 w).2.length ≤ w.length := by have := drpW_len 1 w; omega
      refine r_aload_n dX10_expression_72 rfl ?_
      refine r_iload_n dX10_expression_73 rfl ?_
      refine r_bipush (v := nI 10) dX10_expression_74 (by decide) ?_
      refine r_icmp_ne (tgt := 83) dX10_expression_76 (by decide) (fun _ => ?_) (fun hz => absurd hz (show ¬ _ from (by decide)))
      refine r_iconst (v := nI 5) dX10_expression_83 (by decide) ?_
      refine r_virtV (c_waI m (drpW 1 w).2.length (opI 20011) hM hg5.2.2.2.2.1.1 (by omega)) lk_X10_296 mc_X10_waitsFor dX10_expression_84 (kM_0 hM) (by decide) rfl rfl (Nat.le_of_ble_eq_true rfl) ?_
      refine r_aload_n dX10_expression_87 rfl ?_
      refine r_getR dX10_expression_88 fl_X10_80 rfl (kM_0 hM) (pM_44 hM) ?_
      refine r_aload_n dX10_expression_91 rfl ?_
      refine r_getI dX10_expression_92 fl_X10_290 rfl (kM_0 hM) ?_
      rw [show waI m _ _ I5 m 32 = nI (opens w + 1) from by rw [waI_o (by decide), hg5.2.2.2.2.2.2.1, hop5]]
      refine r_iconst (v := nI 0) dX10_expression_95 (by decide) ?_
      refine r_zast dX10_expression_96 (aM_44 hM) (nI_in8 9 (by have := hD.2.1; omega) (by decide)) (nI_clamp (by have := hD.2.1; omega)) ?_
      rw [show va_up (waI m (drpW 1 w).2.length (opI 20011) I5) (m + 22) (va_up (waI m (drpW 1 w).2.length (opI 20011) I5 (m + 22)) (opens w + 1) (vp_nar .boolean (nI 0))) = teI m (opens (drpW 1 w).2 + 1) false (waI m (drpW 1 w).2.length (opI 20011) I5) from by rw [hop5]; rfl]
      refine r_aload_n dX10_expression_97 rfl ?_
      refine r_virt (kc2 := 0) (ks2 := 0) (c_goesT m i hM hT (hg5.1.2.2.cg (by rw [teI_m]; exact waI_o (by decide)) ((teI_a (by omega)).trans (waI_a (by omega) (by omega)))) (hg5.2.1.1.cg (fun j h1 h2 => by rw [teI_m]; exact waI_o (by omega)) rfl) hi2) lk_X10_256 mc_X10_goes dX10_expression_98 (kM_0 hM) (by decide) rfl rfl (Nat.le_of_ble_eq_true rfl) (by decide) (by decide) (fun _ _ _ _ _ _ h => nomatch h.1) ?_
      rintro v7 n7 kd7 I7 J7 P7 ⟨h00, rfl, rfl, rfl, hf7, hk7⟩
      cases h00
      simp only [Option.toList, List.nil_append]
      have hg7 := hg5.pushT (x := 20011) (by decide) hf7 hk7 hi2
      rw [hop5] at hg7
      refine r_aload_n dX10_expression_101 rfl ?_
      refine r_iconst (v := nI 1) dX10_expression_102 (by decide) ?_
      obtain ⟨k9, k1, k2, k3, k4⟩ := firstN (T := T) (h := h) n9 (stp T h (2, c, i, out, w, te)) (by rw [hs]; show (1 : Nat) < 2; decide) (by rw [hit]; omega)
      rw [hs] at k3 k4
      refine r_virt (kc2 := 0) (ks2 := 0) (c_oper k9 1 (i + 1) hM hT hh (by decide) k3 rfl k4 hg7) lk_X10_307 mc_X10_operand dX10_expression_103 (kM_0 hM) (by decide) rfl rfl (Nat.le_of_ble_eq_true rfl) (by decide) (by decide) (fun _ _ _ _ _ _ h => nomatch h.1) ?_
      rintro v8 n8 kd8 I8 J8 P8 ⟨h00, rfl, rfl, rfl, hf8, hr8⟩
      cases h00
      simp only [Option.toList, List.nil_append]
      have hmd := opRun_md k1 k3 k4
      have hit2 : itr (stp T h) (n9 - k9) (itr (stp T h) k9 (stp T h (2, c, i, out, w, te))) = C9 := by rw [← itr_split _ k2]; exact hit
      rw [hs] at hit2
      have hf99 := ((((hf.tr hf5.e).tr eFr.wa).tr eFr.te).tr hf7.e).tr hf8
      generalize itr (stp T h) k9 _ = C8 at hr8 hmd hit2
      refine r_goto (tgt := 322) dX10_expression_106 (by decide) ?_
      refine r_goto (tgt := 29) dX10_expression_322 (by decide) ?_
      rcases hmd with hm2 | hm3
      · obtain ⟨m8, c8, i8, o8, w8, t8⟩ := C8
        have hm2 : m8 = 2 := hm2
        subst hm2
        exact w_expr hM hT hh N (n9 - k9) c8 i8 o8 w8 t8 _ I8 J8 (by omega) hit2 h34 (hr8.1 rfl) hf99
      · rw [itr_end _ _ (by omega)] at hit2
        subst hit2
        exact w_exB29 hM hm3 (hr8.2 hm3) hf99
    have to186 : ∀ (z2 : Option Value), ¬ ((tkK T i = nI 60 ∨ tkK T i = nI 61) ∧ te (opens w + 1) = false) → Ru yX10_expression.cls cX10_expression 3 none yX10_expression.name 11 ((fun z n' kd' I' J' P' => z = .inl none ∧ n' = n ∧ kd' = kd ∧ P' = P ∧ eFr m I0 I' J0 J' ∧ (C9.1 = 3 → eX m T I' C9.2.1 C9.2.2.1) ∧ (C9.1 = 4 → eF m h T a0 C0 I' J' C9.2.2.1 C9.2.2.2.1))) 0 0 186 [some (.ref m), some (.int (nI 1)), z2] [] n kd I J P := by
      intro z2 c60t
      by_cases c43 : tkK T i = nI 43
      · skip
        have hi2 : i + 1 < T.2.1 := hT.1.2.1 i (by rw [c43]; decide)
        have hs : stp T h (2, c, i, out, w, te) = (0, 0, i + 1, out ++ (drpW 5 w).1, 20004 :: (drpW 5 w).2, te) := by rw [stp_A]; unfold stA; rw [if_neg c134, if_neg c133, if_neg c60t, if_pos (Or.inl c43), show cdN 43 20004 20005 (tkK T i) = 20004 from by rw [c43]; rfl]
        refine r_aload_n dX10_expression_186 rfl ?_
        refine r_bipush (v := nI 43) dX10_expression_187 (by decide) ?_
        refine r_virtE (c_sign m (nI 43) hM) lk_X10_293 mc_X10_isSign dX10_expression_189 (kM_0 hM) (by decide) rfl rfl (Nat.le_of_ble_eq_true rfl) ?_
        rw [hk.sg (c := 43) (by decide), show decide ((tkAt T i).1 = nI 43) = true from decide_eq_true c43]
        refine r_if_ne (tgt := 204) dX10_expression_192 (by decide) (fun _ => ?_) (fun hz => absurd hz (show ¬ _ from (by decide)))
        refine r_aload_n dX10_expression_204 rfl ?_
        refine r_iconst (v := nI 5) dX10_expression_205 (by decide) ?_
        refine r_virt (kc2 := 0) (ks2 := 0) (c_dropsG m h 5 i hM hT (by decide) hg0) lk_X10_304 mc_X10_drops dX10_expression_206 (kM_0 hM) (by decide) rfl rfl (Nat.le_of_ble_eq_true rfl) (by decide) (by decide) (fun _ _ _ _ _ _ h => nomatch h.1) ?_
        rintro v5 n5 kd5 I5 J5 P5 ⟨h00, rfl, rfl, rfl, rfl, hf5, hg5⟩
        cases h00
        simp only [Option.toList, List.nil_append]
        have hop5 := (drpW_op 5 w).1
        have hl5 : (drpW 5 w).2.length ≤ w.length := by have := drpW_len 5 w; omega
        refine r_aload_n dX10_expression_209 rfl ?_
        refine r_aload_n dX10_expression_210 rfl ?_
        refine r_bipush (v := nI 43) dX10_expression_211 (by decide) ?_
        refine r_virtE (c_sign m (nI 43) hM) lk_X10_293 mc_X10_isSign dX10_expression_213 (kM_0 hM) (by decide) rfl rfl (Nat.le_of_ble_eq_true rfl) ?_
        rw [hg5.2.1.1.sg (c := 43) (by decide), show decide ((tkAt T i).1 = nI 43) = true from decide_eq_true c43]
        refine r_if_eq (tgt := 224) dX10_expression_216 (by decide) (fun hz => absurd hz (show ¬ _ from (by decide))) (fun _ => ?_)
        refine r_bipush (v := nI 8) dX10_expression_219 (by decide) ?_
        refine r_goto (tgt := 226) dX10_expression_221 (by decide) ?_
        refine r_virtV (c_waI m (drpW 5 w).2.length (opI 20004) hM hg5.2.2.2.2.1.1 (by omega)) lk_X10_296 mc_X10_waitsFor dX10_expression_226 (kM_0 hM) (by decide) rfl rfl (Nat.le_of_ble_eq_true rfl) ?_
        refine r_aload_n dX10_expression_229 rfl ?_
        refine r_virt (kc2 := 0) (ks2 := 0) (c_goesT m i hM hT (hg5.1.2.2.cg (waI_o (by decide)) (waI_a (by omega) (by omega))) (hg5.2.1.1.cg (fun j h1 h2 => waI_o (by omega)) rfl) hi2) lk_X10_256 mc_X10_goes dX10_expression_230 (kM_0 hM) (by decide) rfl rfl (Nat.le_of_ble_eq_true rfl) (by decide) (by decide) (fun _ _ _ _ _ _ h => nomatch h.1) ?_
        rintro v7 n7 kd7 I7 J7 P7 ⟨h00, rfl, rfl, rfl, hf7, hk7⟩
        cases h00
        simp only [Option.toList, List.nil_append]
        have hg7 := hg5.push (x := 20004) (by decide) hf7 hk7 hi2
        refine r_aload_n dX10_expression_233 rfl ?_
        refine r_iconst (v := nI 0) dX10_expression_234 (by decide) ?_
        obtain ⟨k9, k1, k2, k3, k4⟩ := firstN (T := T) (h := h) n9 (stp T h (2, c, i, out, w, te)) (by rw [hs]; show (0 : Nat) < 2; decide) (by rw [hit]; omega)
        rw [hs] at k3 k4
        refine r_virt (kc2 := 0) (ks2 := 0) (c_oper k9 0 (i + 1) hM hT hh (by decide) k3 rfl k4 hg7) lk_X10_307 mc_X10_operand dX10_expression_235 (kM_0 hM) (by decide) rfl rfl (Nat.le_of_ble_eq_true rfl) (by decide) (by decide) (fun _ _ _ _ _ _ h => nomatch h.1) ?_
        rintro v8 n8 kd8 I8 J8 P8 ⟨h00, rfl, rfl, rfl, hf8, hr8⟩
        cases h00
        simp only [Option.toList, List.nil_append]
        have hmd := opRun_md k1 k3 k4
        have hit2 : itr (stp T h) (n9 - k9) (itr (stp T h) k9 (stp T h (2, c, i, out, w, te))) = C9 := by rw [← itr_split _ k2]; exact hit
        rw [hs] at hit2
        have hf99 := (((hf.tr hf5.e).tr eFr.wa).tr hf7.e).tr hf8
        generalize itr (stp T h) k9 _ = C8 at hr8 hmd hit2
        refine r_goto (tgt := 322) dX10_expression_238 (by decide) ?_
        refine r_goto (tgt := 29) dX10_expression_322 (by decide) ?_
        rcases hmd with hm2 | hm3
        · obtain ⟨m8, c8, i8, o8, w8, t8⟩ := C8
          have hm2 : m8 = 2 := hm2
          subst hm2
          exact w_expr hM hT hh N (n9 - k9) c8 i8 o8 w8 t8 _ I8 J8 (by omega) hit2 h34 (hr8.1 rfl) hf99
        · rw [itr_end _ _ (by omega)] at hit2
          subst hit2
          exact w_exB29 hM hm3 (hr8.2 hm3) hf99
      by_cases c45 : tkK T i = nI 45
      · skip
        have hi2 : i + 1 < T.2.1 := hT.1.2.1 i (by rw [c45]; decide)
        have hs : stp T h (2, c, i, out, w, te) = (0, 0, i + 1, out ++ (drpW 5 w).1, 20005 :: (drpW 5 w).2, te) := by rw [stp_A]; unfold stA; rw [if_neg c134, if_neg c133, if_neg c60t, if_pos (Or.inr c45), show cdN 43 20004 20005 (tkK T i) = 20005 from by rw [c45]; rfl]
        refine r_aload_n dX10_expression_186 rfl ?_
        refine r_bipush (v := nI 43) dX10_expression_187 (by decide) ?_
        refine r_virtE (c_sign m (nI 43) hM) lk_X10_293 mc_X10_isSign dX10_expression_189 (kM_0 hM) (by decide) rfl rfl (Nat.le_of_ble_eq_true rfl) ?_
        rw [hk.sg (c := 43) (by decide), show decide ((tkAt T i).1 = nI 43) = false from decide_eq_false c43]
        refine r_if_ne (tgt := 204) dX10_expression_192 (by decide) (fun hz => absurd (show _ from rfl) hz) (fun _ => ?_)
        refine r_aload_n dX10_expression_195 rfl ?_
        refine r_bipush (v := nI 45) dX10_expression_196 (by decide) ?_
        refine r_virtE (c_sign m (nI 45) hM) lk_X10_293 mc_X10_isSign dX10_expression_198 (kM_0 hM) (by decide) rfl rfl (Nat.le_of_ble_eq_true rfl) ?_
        rw [hk.sg (c := 45) (by decide), show decide ((tkAt T i).1 = nI 45) = true from decide_eq_true c45]
        refine r_if_eq (tgt := 241) dX10_expression_201 (by decide) (fun hz => absurd hz (show ¬ _ from (by decide))) (fun _ => ?_)
        refine r_aload_n dX10_expression_204 rfl ?_
        refine r_iconst (v := nI 5) dX10_expression_205 (by decide) ?_
        refine r_virt (kc2 := 0) (ks2 := 0) (c_dropsG m h 5 i hM hT (by decide) hg0) lk_X10_304 mc_X10_drops dX10_expression_206 (kM_0 hM) (by decide) rfl rfl (Nat.le_of_ble_eq_true rfl) (by decide) (by decide) (fun _ _ _ _ _ _ h => nomatch h.1) ?_
        rintro v5 n5 kd5 I5 J5 P5 ⟨h00, rfl, rfl, rfl, rfl, hf5, hg5⟩
        cases h00
        simp only [Option.toList, List.nil_append]
        have hop5 := (drpW_op 5 w).1
        have hl5 : (drpW 5 w).2.length ≤ w.length := by have := drpW_len 5 w; omega
        refine r_aload_n dX10_expression_209 rfl ?_
        refine r_aload_n dX10_expression_210 rfl ?_
        refine r_bipush (v := nI 43) dX10_expression_211 (by decide) ?_
        refine r_virtE (c_sign m (nI 43) hM) lk_X10_293 mc_X10_isSign dX10_expression_213 (kM_0 hM) (by decide) rfl rfl (Nat.le_of_ble_eq_true rfl) ?_
        rw [hg5.2.1.1.sg (c := 43) (by decide), show decide ((tkAt T i).1 = nI 43) = false from decide_eq_false c43]
        refine r_if_eq (tgt := 224) dX10_expression_216 (by decide) (fun _ => ?_) (fun hz => absurd (show _ from rfl) hz)
        refine r_bipush (v := nI 9) dX10_expression_224 (by decide) ?_
        refine r_virtV (c_waI m (drpW 5 w).2.length (opI 20005) hM hg5.2.2.2.2.1.1 (by omega)) lk_X10_296 mc_X10_waitsFor dX10_expression_226 (kM_0 hM) (by decide) rfl rfl (Nat.le_of_ble_eq_true rfl) ?_
        refine r_aload_n dX10_expression_229 rfl ?_
        refine r_virt (kc2 := 0) (ks2 := 0) (c_goesT m i hM hT (hg5.1.2.2.cg (waI_o (by decide)) (waI_a (by omega) (by omega))) (hg5.2.1.1.cg (fun j h1 h2 => waI_o (by omega)) rfl) hi2) lk_X10_256 mc_X10_goes dX10_expression_230 (kM_0 hM) (by decide) rfl rfl (Nat.le_of_ble_eq_true rfl) (by decide) (by decide) (fun _ _ _ _ _ _ h => nomatch h.1) ?_
        rintro v7 n7 kd7 I7 J7 P7 ⟨h00, rfl, rfl, rfl, hf7, hk7⟩
        cases h00
        simp only [Option.toList, List.nil_append]
        have hg7 := hg5.push (x := 20005) (by decide) hf7 hk7 hi2
        refine r_aload_n dX10_expression_233 rfl ?_
        refine r_iconst (v := nI 0) dX10_expression_234 (by decide) ?_
        obtain ⟨k9, k1, k2, k3, k4⟩ := firstN (T := T) (h := h) n9 (stp T h (2, c, i, out, w, te)) (by rw [hs]; show (0 : Nat) < 2; decide) (by rw [hit]; omega)
        rw [hs] at k3 k4
        refine r_virt (kc2 := 0) (ks2 := 0) (c_oper k9 0 (i + 1) hM hT hh (by decide) k3 rfl k4 hg7) lk_X10_307 mc_X10_operand dX10_expression_235 (kM_0 hM) (by decide) rfl rfl (Nat.le_of_ble_eq_true rfl) (by decide) (by decide) (fun _ _ _ _ _ _ h => nomatch h.1) ?_
        rintro v8 n8 kd8 I8 J8 P8 ⟨h00, rfl, rfl, rfl, hf8, hr8⟩
        cases h00
        simp only [Option.toList, List.nil_append]
        have hmd := opRun_md k1 k3 k4
        have hit2 : itr (stp T h) (n9 - k9) (itr (stp T h) k9 (stp T h (2, c, i, out, w, te))) = C9 := by rw [← itr_split _ k2]; exact hit
        rw [hs] at hit2
        have hf99 := (((hf.tr hf5.e).tr eFr.wa).tr hf7.e).tr hf8
        generalize itr (stp T h) k9 _ = C8 at hr8 hmd hit2
        refine r_goto (tgt := 322) dX10_expression_238 (by decide) ?_
        refine r_goto (tgt := 29) dX10_expression_322 (by decide) ?_
        rcases hmd with hm2 | hm3
        · obtain ⟨m8, c8, i8, o8, w8, t8⟩ := C8
          have hm2 : m8 = 2 := hm2
          subst hm2
          exact w_expr hM hT hh N (n9 - k9) c8 i8 o8 w8 t8 _ I8 J8 (by omega) hit2 h34 (hr8.1 rfl) hf99
        · rw [itr_end _ _ (by omega)] at hit2
          subst hit2
          exact w_exB29 hM hm3 (hr8.2 hm3) hf99
      by_cases c42 : tkK T i = nI 42
      · skip
        have hi2 : i + 1 < T.2.1 := hT.1.2.1 i (by rw [c42]; decide)
        have hs : stp T h (2, c, i, out, w, te) = (0, 0, i + 1, out ++ (drpW 6 w).1, 20006 :: (drpW 6 w).2, te) := by rw [stp_A]; unfold stA; rw [if_neg c134, if_neg c133, if_neg c60t, if_neg (fun q => q.elim c43 c45), if_pos (Or.inl c42), show cdN 42 20006 20007 (tkK T i) = 20006 from by rw [c42]; rfl]
        refine r_aload_n dX10_expression_186 rfl ?_
        refine r_bipush (v := nI 43) dX10_expression_187 (by decide) ?_
        refine r_virtE (c_sign m (nI 43) hM) lk_X10_293 mc_X10_isSign dX10_expression_189 (kM_0 hM) (by decide) rfl rfl (Nat.le_of_ble_eq_true rfl) ?_
        rw [hk.sg (c := 43) (by decide), show decide ((tkAt T i).1 = nI 43) = false from decide_eq_false c43]
        refine r_if_ne (tgt := 204) dX10_expression_192 (by decide) (fun hz => absurd (show _ from rfl) hz) (fun _ => ?_)
        refine r_aload_n dX10_expression_195 rfl ?_
        refine r_bipush (v := nI 45) dX10_expression_196 (by decide) ?_
        refine r_virtE (c_sign m (nI 45) hM) lk_X10_293 mc_X10_isSign dX10_expression_198 (kM_0 hM) (by decide) rfl rfl (Nat.le_of_ble_eq_true rfl) ?_
        rw [hk.sg (c := 45) (by decide), show decide ((tkAt T i).1 = nI 45) = false from decide_eq_false c45]
        refine r_if_eq (tgt := 241) dX10_expression_201 (by decide) (fun _ => ?_) (fun hz => absurd (show _ from rfl) hz)
        refine r_aload_n dX10_expression_241 rfl ?_
        refine r_bipush (v := nI 42) dX10_expression_242 (by decide) ?_
        refine r_virtE (c_sign m (nI 42) hM) lk_X10_293 mc_X10_isSign dX10_expression_244 (kM_0 hM) (by decide) rfl rfl (Nat.le_of_ble_eq_true rfl) ?_
        rw [hk.sg (c := 42) (by decide), show decide ((tkAt T i).1 = nI 42) = true from decide_eq_true c42]
        refine r_if_ne (tgt := 259) dX10_expression_247 (by decide) (fun _ => ?_) (fun hz => absurd hz (show ¬ _ from (by decide)))
        refine r_aload_n dX10_expression_259 rfl ?_
        refine r_bipush (v := nI 6) dX10_expression_260 (by decide) ?_
        refine r_virt (kc2 := 0) (ks2 := 0) (c_dropsG m h 6 i hM hT (by decide) hg0) lk_X10_304 mc_X10_drops dX10_expression_262 (kM_0 hM) (by decide) rfl rfl (Nat.le_of_ble_eq_true rfl) (by decide) (by decide) (fun _ _ _ _ _ _ h => nomatch h.1) ?_
        rintro v5 n5 kd5 I5 J5 P5 ⟨h00, rfl, rfl, rfl, rfl, hf5, hg5⟩
        cases h00
        simp only [Option.toList, List.nil_append]
        have hop5 := (drpW_op 6 w).1
        have hl5 : (drpW 6 w).2.length ≤ w.length := by have := drpW_len 6 w; omega
        refine r_aload_n dX10_expression_265 rfl ?_
        refine r_aload_n dX10_expression_266 rfl ?_
        refine r_bipush (v := nI 42) dX10_expression_267 (by decide) ?_
        refine r_virtE (c_sign m (nI 42) hM) lk_X10_293 mc_X10_isSign dX10_expression_269 (kM_0 hM) (by decide) rfl rfl (Nat.le_of_ble_eq_true rfl) ?_
        rw [hg5.2.1.1.sg (c := 42) (by decide), show decide ((tkAt T i).1 = nI 42) = true from decide_eq_true c42]
        refine r_if_eq (tgt := 280) dX10_expression_272 (by decide) (fun hz => absurd hz (show ¬ _ from (by decide))) (fun _ => ?_)
        refine r_bipush (v := nI 10) dX10_expression_275 (by decide) ?_
        refine r_goto (tgt := 282) dX10_expression_277 (by decide) ?_
        refine r_virtV (c_waI m (drpW 6 w).2.length (opI 20006) hM hg5.2.2.2.2.1.1 (by omega)) lk_X10_296 mc_X10_waitsFor dX10_expression_282 (kM_0 hM) (by decide) rfl rfl (Nat.le_of_ble_eq_true rfl) ?_
        refine r_aload_n dX10_expression_285 rfl ?_
        refine r_virt (kc2 := 0) (ks2 := 0) (c_goesT m i hM hT (hg5.1.2.2.cg (waI_o (by decide)) (waI_a (by omega) (by omega))) (hg5.2.1.1.cg (fun j h1 h2 => waI_o (by omega)) rfl) hi2) lk_X10_256 mc_X10_goes dX10_expression_286 (kM_0 hM) (by decide) rfl rfl (Nat.le_of_ble_eq_true rfl) (by decide) (by decide) (fun _ _ _ _ _ _ h => nomatch h.1) ?_
        rintro v7 n7 kd7 I7 J7 P7 ⟨h00, rfl, rfl, rfl, hf7, hk7⟩
        cases h00
        simp only [Option.toList, List.nil_append]
        have hg7 := hg5.push (x := 20006) (by decide) hf7 hk7 hi2
        refine r_aload_n dX10_expression_289 rfl ?_
        refine r_iconst (v := nI 0) dX10_expression_290 (by decide) ?_
        obtain ⟨k9, k1, k2, k3, k4⟩ := firstN (T := T) (h := h) n9 (stp T h (2, c, i, out, w, te)) (by rw [hs]; show (0 : Nat) < 2; decide) (by rw [hit]; omega)
        rw [hs] at k3 k4
        refine r_virt (kc2 := 0) (ks2 := 0) (c_oper k9 0 (i + 1) hM hT hh (by decide) k3 rfl k4 hg7) lk_X10_307 mc_X10_operand dX10_expression_291 (kM_0 hM) (by decide) rfl rfl (Nat.le_of_ble_eq_true rfl) (by decide) (by decide) (fun _ _ _ _ _ _ h => nomatch h.1) ?_
        rintro v8 n8 kd8 I8 J8 P8 ⟨h00, rfl, rfl, rfl, hf8, hr8⟩
        cases h00
        simp only [Option.toList, List.nil_append]
        have hmd := opRun_md k1 k3 k4
        have hit2 : itr (stp T h) (n9 - k9) (itr (stp T h) k9 (stp T h (2, c, i, out, w, te))) = C9 := by rw [← itr_split _ k2]; exact hit
        rw [hs] at hit2
        have hf99 := (((hf.tr hf5.e).tr eFr.wa).tr hf7.e).tr hf8
        generalize itr (stp T h) k9 _ = C8 at hr8 hmd hit2
        refine r_goto (tgt := 322) dX10_expression_294 (by decide) ?_
        refine r_goto (tgt := 29) dX10_expression_322 (by decide) ?_
        rcases hmd with hm2 | hm3
        · obtain ⟨m8, c8, i8, o8, w8, t8⟩ := C8
          have hm2 : m8 = 2 := hm2
          subst hm2
          exact w_expr hM hT hh N (n9 - k9) c8 i8 o8 w8 t8 _ I8 J8 (by omega) hit2 h34 (hr8.1 rfl) hf99
        · rw [itr_end _ _ (by omega)] at hit2
          subst hit2
          exact w_exB29 hM hm3 (hr8.2 hm3) hf99
      by_cases c47 : tkK T i = nI 47
      · skip
        have hi2 : i + 1 < T.2.1 := hT.1.2.1 i (by rw [c47]; decide)
        have hs : stp T h (2, c, i, out, w, te) = (0, 0, i + 1, out ++ (drpW 6 w).1, 20007 :: (drpW 6 w).2, te) := by rw [stp_A]; unfold stA; rw [if_neg c134, if_neg c133, if_neg c60t, if_neg (fun q => q.elim c43 c45), if_pos (Or.inr c47), show cdN 42 20006 20007 (tkK T i) = 20007 from by rw [c47]; rfl]
        refine r_aload_n dX10_expression_186 rfl ?_
        refine r_bipush (v := nI 43) dX10_expression_187 (by decide) ?_
        refine r_virtE (c_sign m (nI 43) hM) lk_X10_293 mc_X10_isSign dX10_expression_189 (kM_0 hM) (by decide) rfl rfl (Nat.le_of_ble_eq_true rfl) ?_
        rw [hk.sg (c := 43) (by decide), show decide ((tkAt T i).1 = nI 43) = false from decide_eq_false c43]
        refine r_if_ne (tgt := 204) dX10_expression_192 (by decide) (fun hz => absurd (show _ from rfl) hz) (fun _ => ?_)
        refine r_aload_n dX10_expression_195 rfl ?_
        refine r_bipush (v := nI 45) dX10_expression_196 (by decide) ?_
        refine r_virtE (c_sign m (nI 45) hM) lk_X10_293 mc_X10_isSign dX10_expression_198 (kM_0 hM) (by decide) rfl rfl (Nat.le_of_ble_eq_true rfl) ?_
        rw [hk.sg (c := 45) (by decide), show decide ((tkAt T i).1 = nI 45) = false from decide_eq_false c45]
        refine r_if_eq (tgt := 241) dX10_expression_201 (by decide) (fun _ => ?_) (fun hz => absurd (show _ from rfl) hz)
        refine r_aload_n dX10_expression_241 rfl ?_
        refine r_bipush (v := nI 42) dX10_expression_242 (by decide) ?_
        refine r_virtE (c_sign m (nI 42) hM) lk_X10_293 mc_X10_isSign dX10_expression_244 (kM_0 hM) (by decide) rfl rfl (Nat.le_of_ble_eq_true rfl) ?_
        rw [hk.sg (c := 42) (by decide), show decide ((tkAt T i).1 = nI 42) = false from decide_eq_false c42]
        refine r_if_ne (tgt := 259) dX10_expression_247 (by decide) (fun hz => absurd (show _ from rfl) hz) (fun _ => ?_)
        refine r_aload_n dX10_expression_250 rfl ?_
        refine r_bipush (v := nI 47) dX10_expression_251 (by decide) ?_
        refine r_virtE (c_sign m (nI 47) hM) lk_X10_293 mc_X10_isSign dX10_expression_253 (kM_0 hM) (by decide) rfl rfl (Nat.le_of_ble_eq_true rfl) ?_
        rw [hk.sg (c := 47) (by decide), show decide ((tkAt T i).1 = nI 47) = true from decide_eq_true c47]
        refine r_if_eq (tgt := 297) dX10_expression_256 (by decide) (fun hz => absurd hz (show ¬ _ from (by decide))) (fun _ => ?_)
        refine r_aload_n dX10_expression_259 rfl ?_
        refine r_bipush (v := nI 6) dX10_expression_260 (by decide) ?_
        refine r_virt (kc2 := 0) (ks2 := 0) (c_dropsG m h 6 i hM hT (by decide) hg0) lk_X10_304 mc_X10_drops dX10_expression_262 (kM_0 hM) (by decide) rfl rfl (Nat.le_of_ble_eq_true rfl) (by decide) (by decide) (fun _ _ _ _ _ _ h => nomatch h.1) ?_
        rintro v5 n5 kd5 I5 J5 P5 ⟨h00, rfl, rfl, rfl, rfl, hf5, hg5⟩
        cases h00
        simp only [Option.toList, List.nil_append]
        have hop5 := (drpW_op 6 w).1
        have hl5 : (drpW 6 w).2.length ≤ w.length := by have := drpW_len 6 w; omega
        refine r_aload_n dX10_expression_265 rfl ?_
        refine r_aload_n dX10_expression_266 rfl ?_
        refine r_bipush (v := nI 42) dX10_expression_267 (by decide) ?_
        refine r_virtE (c_sign m (nI 42) hM) lk_X10_293 mc_X10_isSign dX10_expression_269 (kM_0 hM) (by decide) rfl rfl (Nat.le_of_ble_eq_true rfl) ?_
        rw [hg5.2.1.1.sg (c := 42) (by decide), show decide ((tkAt T i).1 = nI 42) = false from decide_eq_false c42]
        refine r_if_eq (tgt := 280) dX10_expression_272 (by decide) (fun _ => ?_) (fun hz => absurd (show _ from rfl) hz)
        refine r_bipush (v := nI 11) dX10_expression_280 (by decide) ?_
        refine r_virtV (c_waI m (drpW 6 w).2.length (opI 20007) hM hg5.2.2.2.2.1.1 (by omega)) lk_X10_296 mc_X10_waitsFor dX10_expression_282 (kM_0 hM) (by decide) rfl rfl (Nat.le_of_ble_eq_true rfl) ?_
        refine r_aload_n dX10_expression_285 rfl ?_
        refine r_virt (kc2 := 0) (ks2 := 0) (c_goesT m i hM hT (hg5.1.2.2.cg (waI_o (by decide)) (waI_a (by omega) (by omega))) (hg5.2.1.1.cg (fun j h1 h2 => waI_o (by omega)) rfl) hi2) lk_X10_256 mc_X10_goes dX10_expression_286 (kM_0 hM) (by decide) rfl rfl (Nat.le_of_ble_eq_true rfl) (by decide) (by decide) (fun _ _ _ _ _ _ h => nomatch h.1) ?_
        rintro v7 n7 kd7 I7 J7 P7 ⟨h00, rfl, rfl, rfl, hf7, hk7⟩
        cases h00
        simp only [Option.toList, List.nil_append]
        have hg7 := hg5.push (x := 20007) (by decide) hf7 hk7 hi2
        refine r_aload_n dX10_expression_289 rfl ?_
        refine r_iconst (v := nI 0) dX10_expression_290 (by decide) ?_
        obtain ⟨k9, k1, k2, k3, k4⟩ := firstN (T := T) (h := h) n9 (stp T h (2, c, i, out, w, te)) (by rw [hs]; show (0 : Nat) < 2; decide) (by rw [hit]; omega)
        rw [hs] at k3 k4
        refine r_virt (kc2 := 0) (ks2 := 0) (c_oper k9 0 (i + 1) hM hT hh (by decide) k3 rfl k4 hg7) lk_X10_307 mc_X10_operand dX10_expression_291 (kM_0 hM) (by decide) rfl rfl (Nat.le_of_ble_eq_true rfl) (by decide) (by decide) (fun _ _ _ _ _ _ h => nomatch h.1) ?_
        rintro v8 n8 kd8 I8 J8 P8 ⟨h00, rfl, rfl, rfl, hf8, hr8⟩
        cases h00
        simp only [Option.toList, List.nil_append]
        have hmd := opRun_md k1 k3 k4
        have hit2 : itr (stp T h) (n9 - k9) (itr (stp T h) k9 (stp T h (2, c, i, out, w, te))) = C9 := by rw [← itr_split _ k2]; exact hit
        rw [hs] at hit2
        have hf99 := (((hf.tr hf5.e).tr eFr.wa).tr hf7.e).tr hf8
        generalize itr (stp T h) k9 _ = C8 at hr8 hmd hit2
        refine r_goto (tgt := 322) dX10_expression_294 (by decide) ?_
        refine r_goto (tgt := 29) dX10_expression_322 (by decide) ?_
        rcases hmd with hm2 | hm3
        · obtain ⟨m8, c8, i8, o8, w8, t8⟩ := C8
          have hm2 : m8 = 2 := hm2
          subst hm2
          exact w_expr hM hT hh N (n9 - k9) c8 i8 o8 w8 t8 _ I8 J8 (by omega) hit2 h34 (hr8.1 rfl) hf99
        · rw [itr_end _ _ (by omega)] at hit2
          subst hit2
          exact w_exB29 hM hm3 (hr8.2 hm3) hf99
      by_cases c41 : tkK T i = nI 41
      · by_cases ho : 0 < opens w
        · have hi2 : i + 1 < T.2.1 := hT.1.2.1 i (by rw [c41]; decide)
          have hs : stp T h (2, c, i, out, w, te) = (2, 0, i + 1, out ++ (drpW 0 w).1, (drpW 0 w).2.tail, te) := by rw [stp_A]; unfold stA; rw [if_neg c134, if_neg c133, if_neg c60t, if_neg (fun q => q.elim c43 c45), if_neg (fun q => q.elim c42 c47), if_pos ⟨c41, ho⟩]
          refine r_aload_n dX10_expression_186 rfl ?_
          refine r_bipush (v := nI 43) dX10_expression_187 (by decide) ?_
          refine r_virtE (c_sign m (nI 43) hM) lk_X10_293 mc_X10_isSign dX10_expression_189 (kM_0 hM) (by decide) rfl rfl (Nat.le_of_ble_eq_true rfl) ?_
          rw [hk.sg (c := 43) (by decide), show decide ((tkAt T i).1 = nI 43) = false from decide_eq_false c43]
          refine r_if_ne (tgt := 204) dX10_expression_192 (by decide) (fun hz => absurd (show _ from rfl) hz) (fun _ => ?_)
          refine r_aload_n dX10_expression_195 rfl ?_
          refine r_bipush (v := nI 45) dX10_expression_196 (by decide) ?_
          refine r_virtE (c_sign m (nI 45) hM) lk_X10_293 mc_X10_isSign dX10_expression_198 (kM_0 hM) (by decide) rfl rfl (Nat.le_of_ble_eq_true rfl) ?_
          rw [hk.sg (c := 45) (by decide), show decide ((tkAt T i).1 = nI 45) = false from decide_eq_false c45]
          refine r_if_eq (tgt := 241) dX10_expression_201 (by decide) (fun _ => ?_) (fun hz => absurd (show _ from rfl) hz)
          refine r_aload_n dX10_expression_241 rfl ?_
          refine r_bipush (v := nI 42) dX10_expression_242 (by decide) ?_
          refine r_virtE (c_sign m (nI 42) hM) lk_X10_293 mc_X10_isSign dX10_expression_244 (kM_0 hM) (by decide) rfl rfl (Nat.le_of_ble_eq_true rfl) ?_
          rw [hk.sg (c := 42) (by decide), show decide ((tkAt T i).1 = nI 42) = false from decide_eq_false c42]
          refine r_if_ne (tgt := 259) dX10_expression_247 (by decide) (fun hz => absurd (show _ from rfl) hz) (fun _ => ?_)
          refine r_aload_n dX10_expression_250 rfl ?_
          refine r_bipush (v := nI 47) dX10_expression_251 (by decide) ?_
          refine r_virtE (c_sign m (nI 47) hM) lk_X10_293 mc_X10_isSign dX10_expression_253 (kM_0 hM) (by decide) rfl rfl (Nat.le_of_ble_eq_true rfl) ?_
          rw [hk.sg (c := 47) (by decide), show decide ((tkAt T i).1 = nI 47) = false from decide_eq_false c47]
          refine r_if_eq (tgt := 297) dX10_expression_256 (by decide) (fun _ => ?_) (fun hz => absurd (show _ from rfl) hz)
          refine r_aload_n dX10_expression_297 rfl ?_
          refine r_bipush (v := nI 41) dX10_expression_298 (by decide) ?_
          refine r_virtE (c_sign m (nI 41) hM) lk_X10_293 mc_X10_isSign dX10_expression_300 (kM_0 hM) (by decide) rfl rfl (Nat.le_of_ble_eq_true rfl) ?_
          rw [hk.sg (c := 41) (by decide), show decide ((tkAt T i).1 = nI 41) = true from decide_eq_true c41]
          refine r_if_eq (tgt := 320) dX10_expression_303 (by decide) (fun hz => absurd hz (show ¬ _ from (by decide))) (fun _ => ?_)
          refine r_aload_n dX10_expression_306 rfl ?_
          refine r_virtE (c_opened m w hM hW (by omega)) lk_X10_311 mc_X10_isOpened dX10_expression_307 (kM_0 hM) (by decide) rfl rfl (Nat.le_of_ble_eq_true rfl) ?_
          rw [decide_eq_true ho]
          refine r_if_eq (tgt := 320) dX10_expression_310 (by decide) (fun hz => absurd hz (show ¬ _ from (by decide))) (fun _ => ?_)
          refine r_aload_n dX10_expression_313 rfl ?_
          refine r_virt (kc2 := 0) (ks2 := 0) (c_closesG hM hT hi2 ho hg0) lk_X10_314 mc_X10_closes dX10_expression_314 (kM_0 hM) (by decide) rfl rfl (Nat.le_of_ble_eq_true rfl) (by decide) (by decide) (fun _ _ _ _ _ _ h => nomatch h.1) ?_
          rintro v5 n5 kd5 I5 J5 P5 ⟨h00, rfl, rfl, rfl, hf5, hg5⟩
          cases h00
          simp only [Option.toList, List.nil_append]
          refine r_goto (tgt := 322) dX10_expression_317 (by decide) ?_
          refine r_goto (tgt := 29) dX10_expression_322 (by decide) ?_
          exact w_expr hM hT hh N n9 0 (i + 1) _ _ te _ I5 J5 (by omega) (by rw [← hs]; exact hit) h34 hg5 (hf.tr hf5)
        · have hs : stp T h (2, c, i, out, w, te) = (if 0 < opens w then (3, 1, i, out, w, te) else (4, 0, i, out ++ (drpW 0 w).1, (drpW 0 w).2, te)) := by rw [stp_A]; unfold stA; rw [if_neg c134, if_neg c133, if_neg c60t, if_neg (fun q => q.elim c43 c45), if_neg (fun q => q.elim c42 c47), if_neg (fun q => ho q.2)]
          refine r_aload_n dX10_expression_186 rfl ?_
          refine r_bipush (v := nI 43) dX10_expression_187 (by decide) ?_
          refine r_virtE (c_sign m (nI 43) hM) lk_X10_293 mc_X10_isSign dX10_expression_189 (kM_0 hM) (by decide) rfl rfl (Nat.le_of_ble_eq_true rfl) ?_
          rw [hk.sg (c := 43) (by decide), show decide ((tkAt T i).1 = nI 43) = false from decide_eq_false c43]
          refine r_if_ne (tgt := 204) dX10_expression_192 (by decide) (fun hz => absurd (show _ from rfl) hz) (fun _ => ?_)
          refine r_aload_n dX10_expression_195 rfl ?_
          refine r_bipush (v := nI 45) dX10_expression_196 (by decide) ?_
          refine r_virtE (c_sign m (nI 45) hM) lk_X10_293 mc_X10_isSign dX10_expression_198 (kM_0 hM) (by decide) rfl rfl (Nat.le_of_ble_eq_true rfl) ?_
          rw [hk.sg (c := 45) (by decide), show decide ((tkAt T i).1 = nI 45) = false from decide_eq_false c45]
          refine r_if_eq (tgt := 241) dX10_expression_201 (by decide) (fun _ => ?_) (fun hz => absurd (show _ from rfl) hz)
          refine r_aload_n dX10_expression_241 rfl ?_
          refine r_bipush (v := nI 42) dX10_expression_242 (by decide) ?_
          refine r_virtE (c_sign m (nI 42) hM) lk_X10_293 mc_X10_isSign dX10_expression_244 (kM_0 hM) (by decide) rfl rfl (Nat.le_of_ble_eq_true rfl) ?_
          rw [hk.sg (c := 42) (by decide), show decide ((tkAt T i).1 = nI 42) = false from decide_eq_false c42]
          refine r_if_ne (tgt := 259) dX10_expression_247 (by decide) (fun hz => absurd (show _ from rfl) hz) (fun _ => ?_)
          refine r_aload_n dX10_expression_250 rfl ?_
          refine r_bipush (v := nI 47) dX10_expression_251 (by decide) ?_
          refine r_virtE (c_sign m (nI 47) hM) lk_X10_293 mc_X10_isSign dX10_expression_253 (kM_0 hM) (by decide) rfl rfl (Nat.le_of_ble_eq_true rfl) ?_
          rw [hk.sg (c := 47) (by decide), show decide ((tkAt T i).1 = nI 47) = false from decide_eq_false c47]
          refine r_if_eq (tgt := 297) dX10_expression_256 (by decide) (fun _ => ?_) (fun hz => absurd (show _ from rfl) hz)
          refine r_aload_n dX10_expression_297 rfl ?_
          refine r_bipush (v := nI 41) dX10_expression_298 (by decide) ?_
          refine r_virtE (c_sign m (nI 41) hM) lk_X10_293 mc_X10_isSign dX10_expression_300 (kM_0 hM) (by decide) rfl rfl (Nat.le_of_ble_eq_true rfl) ?_
          rw [hk.sg (c := 41) (by decide), show decide ((tkAt T i).1 = nI 41) = true from decide_eq_true c41]
          refine r_if_eq (tgt := 320) dX10_expression_303 (by decide) (fun hz => absurd hz (show ¬ _ from (by decide))) (fun _ => ?_)
          refine r_aload_n dX10_expression_306 rfl ?_
          refine r_virtE (c_opened m w hM hW (by omega)) lk_X10_311 mc_X10_isOpened dX10_expression_307 (kM_0 hM) (by decide) rfl rfl (Nat.le_of_ble_eq_true rfl) ?_
          rw [decide_eq_false ho]
          refine r_if_eq (tgt := 320) dX10_expression_310 (by decide) (fun _ => ?_) (fun hz => absurd (show _ from rfl) hz)
          refine r_iconst (v := nI 0) dX10_expression_320 (by decide) ?_
          refine r_istore_n dX10_expression_321 (by decide) ?_
          refine r_goto (tgt := 29) dX10_expression_322 (by decide) ?_
          have hCe : C9 = if 0 < opens w then (3, 1, i, out, w, te) else (4, 0, i, out ++ (drpW 0 w).1, (drpW 0 w).2, te) := by
            rw [hs] at hit
            rw [itr_end n9 _ (by split <;> (first | (show 2 < (3 : Nat); decide) | (show 2 < (4 : Nat); decide)))] at hit
            exact hit.symm
          exact w_exE (c := c) hM hT hCe hg0 hf
      · have hs : stp T h (2, c, i, out, w, te) = (if 0 < opens w then (3, 1, i, out, w, te) else (4, 0, i, out ++ (drpW 0 w).1, (drpW 0 w).2, te)) := by rw [stp_A]; unfold stA; rw [if_neg c134, if_neg c133, if_neg c60t, if_neg (fun q => q.elim c43 c45), if_neg (fun q => q.elim c42 c47), if_neg (fun q => c41 q.1)]
        refine r_aload_n dX10_expression_186 rfl ?_
        refine r_bipush (v := nI 43) dX10_expression_187 (by decide) ?_
        refine r_virtE (c_sign m (nI 43) hM) lk_X10_293 mc_X10_isSign dX10_expression_189 (kM_0 hM) (by decide) rfl rfl (Nat.le_of_ble_eq_true rfl) ?_
        rw [hk.sg (c := 43) (by decide), show decide ((tkAt T i).1 = nI 43) = false from decide_eq_false c43]
        refine r_if_ne (tgt := 204) dX10_expression_192 (by decide) (fun hz => absurd (show _ from rfl) hz) (fun _ => ?_)
        refine r_aload_n dX10_expression_195 rfl ?_
        refine r_bipush (v := nI 45) dX10_expression_196 (by decide) ?_
        refine r_virtE (c_sign m (nI 45) hM) lk_X10_293 mc_X10_isSign dX10_expression_198 (kM_0 hM) (by decide) rfl rfl (Nat.le_of_ble_eq_true rfl) ?_
        rw [hk.sg (c := 45) (by decide), show decide ((tkAt T i).1 = nI 45) = false from decide_eq_false c45]
        refine r_if_eq (tgt := 241) dX10_expression_201 (by decide) (fun _ => ?_) (fun hz => absurd (show _ from rfl) hz)
        refine r_aload_n dX10_expression_241 rfl ?_
        refine r_bipush (v := nI 42) dX10_expression_242 (by decide) ?_
        refine r_virtE (c_sign m (nI 42) hM) lk_X10_293 mc_X10_isSign dX10_expression_244 (kM_0 hM) (by decide) rfl rfl (Nat.le_of_ble_eq_true rfl) ?_
        rw [hk.sg (c := 42) (by decide), show decide ((tkAt T i).1 = nI 42) = false from decide_eq_false c42]
        refine r_if_ne (tgt := 259) dX10_expression_247 (by decide) (fun hz => absurd (show _ from rfl) hz) (fun _ => ?_)
        refine r_aload_n dX10_expression_250 rfl ?_
        refine r_bipush (v := nI 47) dX10_expression_251 (by decide) ?_
        refine r_virtE (c_sign m (nI 47) hM) lk_X10_293 mc_X10_isSign dX10_expression_253 (kM_0 hM) (by decide) rfl rfl (Nat.le_of_ble_eq_true rfl) ?_
        rw [hk.sg (c := 47) (by decide), show decide ((tkAt T i).1 = nI 47) = false from decide_eq_false c47]
        refine r_if_eq (tgt := 297) dX10_expression_256 (by decide) (fun _ => ?_) (fun hz => absurd (show _ from rfl) hz)
        refine r_aload_n dX10_expression_297 rfl ?_
        refine r_bipush (v := nI 41) dX10_expression_298 (by decide) ?_
        refine r_virtE (c_sign m (nI 41) hM) lk_X10_293 mc_X10_isSign dX10_expression_300 (kM_0 hM) (by decide) rfl rfl (Nat.le_of_ble_eq_true rfl) ?_
        rw [hk.sg (c := 41) (by decide), show decide ((tkAt T i).1 = nI 41) = false from decide_eq_false c41]
        refine r_if_eq (tgt := 320) dX10_expression_303 (by decide) (fun _ => ?_) (fun hz => absurd (show _ from rfl) hz)
        refine r_iconst (v := nI 0) dX10_expression_320 (by decide) ?_
        refine r_istore_n dX10_expression_321 (by decide) ?_
        refine r_goto (tgt := 29) dX10_expression_322 (by decide) ?_
        have hCe : C9 = if 0 < opens w then (3, 1, i, out, w, te) else (4, 0, i, out ++ (drpW 0 w).1, (drpW 0 w).2, te) := by
          rw [hs] at hit
          rw [itr_end n9 _ (by split <;> (first | (show 2 < (3 : Nat); decide) | (show 2 < (4 : Nat); decide)))] at hit
          exact hit.symm
        exact w_exE (c := c) hM hT hCe hg0 hf
    by_cases c60 : tkK T i = nI 60
    · by_cases ct : te (opens w + 1) = false
      · skip
        have hi2 : i + 1 < T.2.1 := hT.1.2.1 i (by rw [c60]; decide)
        have hs : stp T h (2, c, i, out, w, te) = (0, 0, i + 1, out ++ (drpW 4 w).1, 20008 :: (drpW 4 w).2, upT te (opens w + 1) true) := by rw [stp_A]; unfold stA; rw [if_neg c134, if_neg c133, if_pos ⟨Or.inl c60, ct⟩, show cdN 60 20008 20009 (tkK T i) = 20008 from by rw [c60]; rfl]
        refine r_iload_n dX10_expression_29 rfl ?_
        refine r_if_eq (tgt := 325) dX10_expression_30 (by decide) (fun hz => absurd hz (show ¬ _ from (by decide))) (fun _ => ?_)
        refine r_aload_n dX10_expression_33 rfl ?_
        refine r_virtE (c_good m hM) lk_X10_252 mc_X10_isGood dX10_expression_34 (kM_0 hM) (by decide) rfl rfl (Nat.le_of_ble_eq_true rfl) ?_
        rw [h16, show decide (nI 0 = 0) = true from rfl]
        refine r_if_eq (tgt := 325) dX10_expression_37 (by decide) (fun hz => absurd hz (show ¬ _ from (by decide))) (fun _ => ?_)
        refine r_aload_n dX10_expression_40 rfl ?_
        refine r_virtE (c_known m (kwI (tkK T i)) hM hk.2.2.1.symm) lk_X10_262 mc_X10_knownWord dX10_expression_41 (kM_0 hM) (by decide) rfl rfl (Nat.le_of_ble_eq_true rfl) ?_
        refine r_istore_n dX10_expression_44 (by decide) ?_
        refine r_iload_n dX10_expression_45 rfl ?_
        refine r_bipush (v := nI 10) dX10_expression_46 (by decide) ?_
        refine r_icmp_eq (tgt := 57) dX10_expression_48 (by decide) (fun hz => absurd hz (show ¬ _ from (kwI_10 c134))) (fun _ => ?_)
        refine r_iload_n dX10_expression_51 rfl ?_
        refine r_bipush (v := nI 11) dX10_expression_52 (by decide) ?_
        refine r_icmp_ne (tgt := 109) dX10_expression_54 (by decide) (fun _ => ?_) (fun hz => absurd hz (show ¬ _ from (kwI_11 c133)))
        refine r_aload_n dX10_expression_109 rfl ?_
        refine r_bipush (v := nI 60) dX10_expression_110 (by decide) ?_
        refine r_virtE (c_sign m (nI 60) hM) lk_X10_293 mc_X10_isSign dX10_expression_112 (kM_0 hM) (by decide) rfl rfl (Nat.le_of_ble_eq_true rfl) ?_
        rw [hk.sg (c := 60) (by decide), show decide ((tkAt T i).1 = nI 60) = true from decide_eq_true c60]
        refine r_if_ne (tgt := 127) dX10_expression_115 (by decide) (fun _ => ?_) (fun hz => absurd hz (show ¬ _ from (by decide)))
        refine r_aload_n dX10_expression_127 rfl ?_
        refine r_getR dX10_expression_128 fl_X10_80 rfl (kM_0 hM) (pM_44 hM) ?_
        refine r_aload_n dX10_expression_131 rfl ?_
        refine r_getI dX10_expression_132 fl_X10_290 rfl (kM_0 hM) ?_
        rw [hD.1]
        refine r_zald dX10_expression_135 (aM_44 hM) (nI_in8 9 (by have := hD.2.1; omega) (by decide)) (nI_clamp (by have := hD.2.1; omega)) ?_
        rw [hD.2.2 _ (Nat.succ_le_succ (Nat.zero_le _)) (Nat.le_refl _), ct]
        refine r_if_ne (tgt := 186) dX10_expression_136 (by decide) (fun hz => absurd (show _ from rfl) hz) (fun _ => ?_)
        refine r_aload_n dX10_expression_139 rfl ?_
        refine r_iconst (v := nI 4) dX10_expression_140 (by decide) ?_
        refine r_virt (kc2 := 0) (ks2 := 0) (c_dropsG m h 4 i hM hT (by decide) hg0) lk_X10_304 mc_X10_drops dX10_expression_141 (kM_0 hM) (by decide) rfl rfl (Nat.le_of_ble_eq_true rfl) (by decide) (by decide) (fun _ _ _ _ _ _ h => nomatch h.1) ?_
        rintro v5 n5 kd5 I5 J5 P5 ⟨h00, rfl, rfl, rfl, rfl, hf5, hg5⟩
        cases h00
        simp only [Option.toList, List.nil_append]
        have hop5 := (drpW_op 4 w).1
        have hl5 : (drpW 4 w).2.length ≤ w.length := by have := drpW_len 4 w; omega
        refine r_aload_n dX10_expression_144 rfl ?_
        refine r_aload_n dX10_expression_145 rfl ?_
        refine r_bipush (v := nI 60) dX10_expression_146 (by decide) ?_
        refine r_virtE (c_sign m (nI 60) hM) lk_X10_293 mc_X10_isSign dX10_expression_148 (kM_0 hM) (by decide) rfl rfl (Nat.le_of_ble_eq_true rfl) ?_
        rw [hg5.2.1.1.sg (c := 60) (by decide), show decide ((tkAt T i).1 = nI 60) = true from decide_eq_true c60]
        refine r_if_eq (tgt := 159) dX10_expression_151 (by decide) (fun hz => absurd hz (show ¬ _ from (by decide))) (fun _ => ?_)
        refine r_bipush (v := nI 6) dX10_expression_154 (by decide) ?_
        refine r_goto (tgt := 161) dX10_expression_156 (by decide) ?_
        refine r_virtV (c_waI m (drpW 4 w).2.length (opI 20008) hM hg5.2.2.2.2.1.1 (by omega)) lk_X10_296 mc_X10_waitsFor dX10_expression_161 (kM_0 hM) (by decide) rfl rfl (Nat.le_of_ble_eq_true rfl) ?_
        refine r_aload_n dX10_expression_164 rfl ?_
        refine r_getR dX10_expression_165 fl_X10_80 rfl (kM_0 hM) (pM_44 hM) ?_
        refine r_aload_n dX10_expression_168 rfl ?_
        refine r_getI dX10_expression_169 fl_X10_290 rfl (kM_0 hM) ?_
        rw [show waI m _ _ I5 m 32 = nI (opens w + 1) from by rw [waI_o (by decide), hg5.2.2.2.2.2.2.1, hop5]]
        refine r_iconst (v := nI 1) dX10_expression_172 (by decide) ?_
        refine r_zast dX10_expression_173 (aM_44 hM) (nI_in8 9 (by have := hD.2.1; omega) (by decide)) (nI_clamp (by have := hD.2.1; omega)) ?_
        rw [show va_up (waI m (drpW 4 w).2.length (opI 20008) I5) (m + 22) (va_up (waI m (drpW 4 w).2.length (opI 20008) I5 (m + 22)) (opens w + 1) (vp_nar .boolean (nI 1))) = teI m (opens (drpW 4 w).2 + 1) true (waI m (drpW 4 w).2.length (opI 20008) I5) from by rw [hop5]; rfl]
        refine r_aload_n dX10_expression_174 rfl ?_
        refine r_virt (kc2 := 0) (ks2 := 0) (c_goesT m i hM hT (hg5.1.2.2.cg (by rw [teI_m]; exact waI_o (by decide)) ((teI_a (by omega)).trans (waI_a (by omega) (by omega)))) (hg5.2.1.1.cg (fun j h1 h2 => by rw [teI_m]; exact waI_o (by omega)) rfl) hi2) lk_X10_256 mc_X10_goes dX10_expression_175 (kM_0 hM) (by decide) rfl rfl (Nat.le_of_ble_eq_true rfl) (by decide) (by decide) (fun _ _ _ _ _ _ h => nomatch h.1) ?_
        rintro v7 n7 kd7 I7 J7 P7 ⟨h00, rfl, rfl, rfl, hf7, hk7⟩
        cases h00
        simp only [Option.toList, List.nil_append]
        have hg7 := hg5.pushT (x := 20008) (by decide) hf7 hk7 hi2
        rw [hop5] at hg7
        refine r_aload_n dX10_expression_178 rfl ?_
        refine r_iconst (v := nI 0) dX10_expression_179 (by decide) ?_
        obtain ⟨k9, k1, k2, k3, k4⟩ := firstN (T := T) (h := h) n9 (stp T h (2, c, i, out, w, te)) (by rw [hs]; show (0 : Nat) < 2; decide) (by rw [hit]; omega)
        rw [hs] at k3 k4
        refine r_virt (kc2 := 0) (ks2 := 0) (c_oper k9 0 (i + 1) hM hT hh (by decide) k3 rfl k4 hg7) lk_X10_307 mc_X10_operand dX10_expression_180 (kM_0 hM) (by decide) rfl rfl (Nat.le_of_ble_eq_true rfl) (by decide) (by decide) (fun _ _ _ _ _ _ h => nomatch h.1) ?_
        rintro v8 n8 kd8 I8 J8 P8 ⟨h00, rfl, rfl, rfl, hf8, hr8⟩
        cases h00
        simp only [Option.toList, List.nil_append]
        have hmd := opRun_md k1 k3 k4
        have hit2 : itr (stp T h) (n9 - k9) (itr (stp T h) k9 (stp T h (2, c, i, out, w, te))) = C9 := by rw [← itr_split _ k2]; exact hit
        rw [hs] at hit2
        have hf99 := ((((hf.tr hf5.e).tr eFr.wa).tr eFr.te).tr hf7.e).tr hf8
        generalize itr (stp T h) k9 _ = C8 at hr8 hmd hit2
        refine r_goto (tgt := 322) dX10_expression_183 (by decide) ?_
        refine r_goto (tgt := 29) dX10_expression_322 (by decide) ?_
        rcases hmd with hm2 | hm3
        · obtain ⟨m8, c8, i8, o8, w8, t8⟩ := C8
          have hm2 : m8 = 2 := hm2
          subst hm2
          exact w_expr hM hT hh N (n9 - k9) c8 i8 o8 w8 t8 _ I8 J8 (by omega) hit2 h34 (hr8.1 rfl) hf99
        · rw [itr_end _ _ (by omega)] at hit2
          subst hit2
          exact w_exB29 hM hm3 (hr8.2 hm3) hf99
      · skip
        refine r_iload_n dX10_expression_29 rfl ?_
        refine r_if_eq (tgt := 325) dX10_expression_30 (by decide) (fun hz => absurd hz (show ¬ _ from (by decide))) (fun _ => ?_)
        refine r_aload_n dX10_expression_33 rfl ?_
        refine r_virtE (c_good m hM) lk_X10_252 mc_X10_isGood dX10_expression_34 (kM_0 hM) (by decide) rfl rfl (Nat.le_of_ble_eq_true rfl) ?_
        rw [h16, show decide (nI 0 = 0) = true from rfl]
        refine r_if_eq (tgt := 325) dX10_expression_37 (by decide) (fun hz => absurd hz (show ¬ _ from (by decide))) (fun _ => ?_)
        refine r_aload_n dX10_expression_40 rfl ?_
        refine r_virtE (c_known m (kwI (tkK T i)) hM hk.2.2.1.symm) lk_X10_262 mc_X10_knownWord dX10_expression_41 (kM_0 hM) (by decide) rfl rfl (Nat.le_of_ble_eq_true rfl) ?_
        refine r_istore_n dX10_expression_44 (by decide) ?_
        refine r_iload_n dX10_expression_45 rfl ?_
        refine r_bipush (v := nI 10) dX10_expression_46 (by decide) ?_
        refine r_icmp_eq (tgt := 57) dX10_expression_48 (by decide) (fun hz => absurd hz (show ¬ _ from (kwI_10 c134))) (fun _ => ?_)
        refine r_iload_n dX10_expression_51 rfl ?_
        refine r_bipush (v := nI 11) dX10_expression_52 (by decide) ?_
        refine r_icmp_ne (tgt := 109) dX10_expression_54 (by decide) (fun _ => ?_) (fun hz => absurd hz (show ¬ _ from (kwI_11 c133)))
        refine r_aload_n dX10_expression_109 rfl ?_
        refine r_bipush (v := nI 60) dX10_expression_110 (by decide) ?_
        refine r_virtE (c_sign m (nI 60) hM) lk_X10_293 mc_X10_isSign dX10_expression_112 (kM_0 hM) (by decide) rfl rfl (Nat.le_of_ble_eq_true rfl) ?_
        rw [hk.sg (c := 60) (by decide), show decide ((tkAt T i).1 = nI 60) = true from decide_eq_true c60]
        refine r_if_ne (tgt := 127) dX10_expression_115 (by decide) (fun _ => ?_) (fun hz => absurd hz (show ¬ _ from (by decide)))
        refine r_aload_n dX10_expression_127 rfl ?_
        refine r_getR dX10_expression_128 fl_X10_80 rfl (kM_0 hM) (pM_44 hM) ?_
        refine r_aload_n dX10_expression_131 rfl ?_
        refine r_getI dX10_expression_132 fl_X10_290 rfl (kM_0 hM) ?_
        rw [hD.1]
        refine r_zald dX10_expression_135 (aM_44 hM) (nI_in8 9 (by have := hD.2.1; omega) (by decide)) (nI_clamp (by have := hD.2.1; omega)) ?_
        rw [hD.2.2 _ (Nat.succ_le_succ (Nat.zero_le _)) (Nat.le_refl _), eq_true_of_ne_false ct]
        refine r_if_ne (tgt := 186) dX10_expression_136 (by decide) (fun _ => ?_) (fun hz => absurd hz (show ¬ _ from (by decide)))
        exact to186 _ (fun q => ct q.2)
    by_cases c61 : tkK T i = nI 61
    · by_cases ct : te (opens w + 1) = false
      · skip
        have hi2 : i + 1 < T.2.1 := hT.1.2.1 i (by rw [c61]; decide)
        have hs : stp T h (2, c, i, out, w, te) = (0, 0, i + 1, out ++ (drpW 4 w).1, 20009 :: (drpW 4 w).2, upT te (opens w + 1) true) := by rw [stp_A]; unfold stA; rw [if_neg c134, if_neg c133, if_pos ⟨Or.inr c61, ct⟩, show cdN 60 20008 20009 (tkK T i) = 20009 from by rw [c61]; rfl]
        refine r_iload_n dX10_expression_29 rfl ?_
        refine r_if_eq (tgt := 325) dX10_expression_30 (by decide) (fun hz => absurd hz (show ¬ _ from (by decide))) (fun _ => ?_)
        refine r_aload_n dX10_expression_33 rfl ?_
        refine r_virtE (c_good m hM) lk_X10_252 mc_X10_isGood dX10_expression_34 (kM_0 hM) (by decide) rfl rfl (Nat.le_of_ble_eq_true rfl) ?_
        rw [h16, show decide (nI 0 = 0) = true from rfl]
        refine r_if_eq (tgt := 325) dX10_expression_37 (by decide) (fun hz => absurd hz (show ¬ _ from (by decide))) (fun _ => ?_)
        refine r_aload_n dX10_expression_40 rfl ?_
        refine r_virtE (c_known m (kwI (tkK T i)) hM hk.2.2.1.symm) lk_X10_262 mc_X10_knownWord dX10_expression_41 (kM_0 hM) (by decide) rfl rfl (Nat.le_of_ble_eq_true rfl) ?_
        refine r_istore_n dX10_expression_44 (by decide) ?_
        refine r_iload_n dX10_expression_45 rfl ?_
        refine r_bipush (v := nI 10) dX10_expression_46 (by decide) ?_
        refine r_icmp_eq (tgt := 57) dX10_expression_48 (by decide) (fun hz => absurd hz (show ¬ _ from (kwI_10 c134))) (fun _ => ?_)
        refine r_iload_n dX10_expression_51 rfl ?_
        refine r_bipush (v := nI 11) dX10_expression_52 (by decide) ?_
        refine r_icmp_ne (tgt := 109) dX10_expression_54 (by decide) (fun _ => ?_) (fun hz => absurd hz (show ¬ _ from (kwI_11 c133)))
        refine r_aload_n dX10_expression_109 rfl ?_
        refine r_bipush (v := nI 60) dX10_expression_110 (by decide) ?_
        refine r_virtE (c_sign m (nI 60) hM) lk_X10_293 mc_X10_isSign dX10_expression_112 (kM_0 hM) (by decide) rfl rfl (Nat.le_of_ble_eq_true rfl) ?_
        rw [hk.sg (c := 60) (by decide), show decide ((tkAt T i).1 = nI 60) = false from decide_eq_false c60]
        refine r_if_ne (tgt := 127) dX10_expression_115 (by decide) (fun hz => absurd (show _ from rfl) hz) (fun _ => ?_)
        refine r_aload_n dX10_expression_118 rfl ?_
        refine r_bipush (v := nI 61) dX10_expression_119 (by decide) ?_
        refine r_virtE (c_sign m (nI 61) hM) lk_X10_293 mc_X10_isSign dX10_expression_121 (kM_0 hM) (by decide) rfl rfl (Nat.le_of_ble_eq_true rfl) ?_
        rw [hk.sg (c := 61) (by decide), show decide ((tkAt T i).1 = nI 61) = true from decide_eq_true c61]
        refine r_if_eq (tgt := 186) dX10_expression_124 (by decide) (fun hz => absurd hz (show ¬ _ from (by decide))) (fun _ => ?_)
        refine r_aload_n dX10_expression_127 rfl ?_
        refine r_getR dX10_expression_128 fl_X10_80 rfl (kM_0 hM) (pM_44 hM) ?_
        refine r_aload_n dX10_expression_131 rfl ?_
        refine r_getI dX10_expression_132 fl_X10_290 rfl (kM_0 hM) ?_
        rw [hD.1]
        refine r_zald dX10_expression_135 (aM_44 hM) (nI_in8 9 (by have := hD.2.1; omega) (by decide)) (nI_clamp (by have := hD.2.1; omega)) ?_
        rw [hD.2.2 _ (Nat.succ_le_succ (Nat.zero_le _)) (Nat.le_refl _), ct]
        refine r_if_ne (tgt := 186) dX10_expression_136 (by decide) (fun hz => absurd (show _ from rfl) hz) (fun _ => ?_)
        refine r_aload_n dX10_expression_139 rfl ?_
        refine r_iconst (v := nI 4) dX10_expression_140 (by decide) ?_
        refine r_virt (kc2 := 0) (ks2 := 0) (c_dropsG m h 4 i hM hT (by decide) hg0) lk_X10_304 mc_X10_drops dX10_expression_141 (kM_0 hM) (by decide) rfl rfl (Nat.le_of_ble_eq_true rfl) (by decide) (by decide) (fun _ _ _ _ _ _ h => nomatch h.1) ?_
        rintro v5 n5 kd5 I5 J5 P5 ⟨h00, rfl, rfl, rfl, rfl, hf5, hg5⟩
        cases h00
        simp only [Option.toList, List.nil_append]
        have hop5 := (drpW_op 4 w).1
        have hl5 : (drpW 4 w).2.length ≤ w.length := by have := drpW_len 4 w; omega
        refine r_aload_n dX10_expression_144 rfl ?_
        refine r_aload_n dX10_expression_145 rfl ?_
        refine r_bipush (v := nI 60) dX10_expression_146 (by decide) ?_
        refine r_virtE (c_sign m (nI 60) hM) lk_X10_293 mc_X10_isSign dX10_expression_148 (kM_0 hM) (by decide) rfl rfl (Nat.le_of_ble_eq_true rfl) ?_
        rw [hg5.2.1.1.sg (c := 60) (by decide), show decide ((tkAt T i).1 = nI 60) = false from decide_eq_false c60]
        refine r_if_eq (tgt := 159) dX10_expression_151 (by decide) (fun _ => ?_) (fun hz => absurd (show _ from rfl) hz)
        refine r_bipush (v := nI 7) dX10_expression_159 (by decide) ?_
        refine r_virtV (c_waI m (drpW 4 w).2.length (opI 20009) hM hg5.2.2.2.2.1.1 (by omega)) lk_X10_296 mc_X10_waitsFor dX10_expression_161 (kM_0 hM) (by decide) rfl rfl (Nat.le_of_ble_eq_true rfl) ?_
        refine r_aload_n dX10_expression_164 rfl ?_
        refine r_getR dX10_expression_165 fl_X10_80 rfl (kM_0 hM) (pM_44 hM) ?_
        refine r_aload_n dX10_expression_168 rfl ?_
        refine r_getI dX10_expression_169 fl_X10_290 rfl (kM_0 hM) ?_
        rw [show waI m _ _ I5 m 32 = nI (opens w + 1) from by rw [waI_o (by decide), hg5.2.2.2.2.2.2.1, hop5]]
        refine r_iconst (v := nI 1) dX10_expression_172 (by decide) ?_
        refine r_zast dX10_expression_173 (aM_44 hM) (nI_in8 9 (by have := hD.2.1; omega) (by decide)) (nI_clamp (by have := hD.2.1; omega)) ?_
        rw [show va_up (waI m (drpW 4 w).2.length (opI 20009) I5) (m + 22) (va_up (waI m (drpW 4 w).2.length (opI 20009) I5 (m + 22)) (opens w + 1) (vp_nar .boolean (nI 1))) = teI m (opens (drpW 4 w).2 + 1) true (waI m (drpW 4 w).2.length (opI 20009) I5) from by rw [hop5]; rfl]
        refine r_aload_n dX10_expression_174 rfl ?_
        refine r_virt (kc2 := 0) (ks2 := 0) (c_goesT m i hM hT (hg5.1.2.2.cg (by rw [teI_m]; exact waI_o (by decide)) ((teI_a (by omega)).trans (waI_a (by omega) (by omega)))) (hg5.2.1.1.cg (fun j h1 h2 => by rw [teI_m]; exact waI_o (by omega)) rfl) hi2) lk_X10_256 mc_X10_goes dX10_expression_175 (kM_0 hM) (by decide) rfl rfl (Nat.le_of_ble_eq_true rfl) (by decide) (by decide) (fun _ _ _ _ _ _ h => nomatch h.1) ?_
        rintro v7 n7 kd7 I7 J7 P7 ⟨h00, rfl, rfl, rfl, hf7, hk7⟩
        cases h00
        simp only [Option.toList, List.nil_append]
        have hg7 := hg5.pushT (x := 20009) (by decide) hf7 hk7 hi2
        rw [hop5] at hg7
        refine r_aload_n dX10_expression_178 rfl ?_
        refine r_iconst (v := nI 0) dX10_expression_179 (by decide) ?_
        obtain ⟨k9, k1, k2, k3, k4⟩ := firstN (T := T) (h := h) n9 (stp T h (2, c, i, out, w, te)) (by rw [hs]; show (0 : Nat) < 2; decide) (by rw [hit]; omega)
        rw [hs] at k3 k4
        refine r_virt (kc2 := 0) (ks2 := 0) (c_oper k9 0 (i + 1) hM hT hh (by decide) k3 rfl k4 hg7) lk_X10_307 mc_X10_operand dX10_expression_180 (kM_0 hM) (by decide) rfl rfl (Nat.le_of_ble_eq_true rfl) (by decide) (by decide) (fun _ _ _ _ _ _ h => nomatch h.1) ?_
        rintro v8 n8 kd8 I8 J8 P8 ⟨h00, rfl, rfl, rfl, hf8, hr8⟩
        cases h00
        simp only [Option.toList, List.nil_append]
        have hmd := opRun_md k1 k3 k4
        have hit2 : itr (stp T h) (n9 - k9) (itr (stp T h) k9 (stp T h (2, c, i, out, w, te))) = C9 := by rw [← itr_split _ k2]; exact hit
        rw [hs] at hit2
        have hf99 := ((((hf.tr hf5.e).tr eFr.wa).tr eFr.te).tr hf7.e).tr hf8
        generalize itr (stp T h) k9 _ = C8 at hr8 hmd hit2
        refine r_goto (tgt := 322) dX10_expression_183 (by decide) ?_
        refine r_goto (tgt := 29) dX10_expression_322 (by decide) ?_
        rcases hmd with hm2 | hm3
        · obtain ⟨m8, c8, i8, o8, w8, t8⟩ := C8
          have hm2 : m8 = 2 := hm2
          subst hm2
          exact w_expr hM hT hh N (n9 - k9) c8 i8 o8 w8 t8 _ I8 J8 (by omega) hit2 h34 (hr8.1 rfl) hf99
        · rw [itr_end _ _ (by omega)] at hit2
          subst hit2
          exact w_exB29 hM hm3 (hr8.2 hm3) hf99
      · skip
        refine r_iload_n dX10_expression_29 rfl ?_
        refine r_if_eq (tgt := 325) dX10_expression_30 (by decide) (fun hz => absurd hz (show ¬ _ from (by decide))) (fun _ => ?_)
        refine r_aload_n dX10_expression_33 rfl ?_
        refine r_virtE (c_good m hM) lk_X10_252 mc_X10_isGood dX10_expression_34 (kM_0 hM) (by decide) rfl rfl (Nat.le_of_ble_eq_true rfl) ?_
        rw [h16, show decide (nI 0 = 0) = true from rfl]
        refine r_if_eq (tgt := 325) dX10_expression_37 (by decide) (fun hz => absurd hz (show ¬ _ from (by decide))) (fun _ => ?_)
        refine r_aload_n dX10_expression_40 rfl ?_
        refine r_virtE (c_known m (kwI (tkK T i)) hM hk.2.2.1.symm) lk_X10_262 mc_X10_knownWord dX10_expression_41 (kM_0 hM) (by decide) rfl rfl (Nat.le_of_ble_eq_true rfl) ?_
        refine r_istore_n dX10_expression_44 (by decide) ?_
        refine r_iload_n dX10_expression_45 rfl ?_
        refine r_bipush (v := nI 10) dX10_expression_46 (by decide) ?_
        refine r_icmp_eq (tgt := 57) dX10_expression_48 (by decide) (fun hz => absurd hz (show ¬ _ from (kwI_10 c134))) (fun _ => ?_)
        refine r_iload_n dX10_expression_51 rfl ?_
        refine r_bipush (v := nI 11) dX10_expression_52 (by decide) ?_
        refine r_icmp_ne (tgt := 109) dX10_expression_54 (by decide) (fun _ => ?_) (fun hz => absurd hz (show ¬ _ from (kwI_11 c133)))
        refine r_aload_n dX10_expression_109 rfl ?_
        refine r_bipush (v := nI 60) dX10_expression_110 (by decide) ?_
        refine r_virtE (c_sign m (nI 60) hM) lk_X10_293 mc_X10_isSign dX10_expression_112 (kM_0 hM) (by decide) rfl rfl (Nat.le_of_ble_eq_true rfl) ?_
        rw [hk.sg (c := 60) (by decide), show decide ((tkAt T i).1 = nI 60) = false from decide_eq_false c60]
        refine r_if_ne (tgt := 127) dX10_expression_115 (by decide) (fun hz => absurd (show _ from rfl) hz) (fun _ => ?_)
        refine r_aload_n dX10_expression_118 rfl ?_
        refine r_bipush (v := nI 61) dX10_expression_119 (by decide) ?_
        refine r_virtE (c_sign m (nI 61) hM) lk_X10_293 mc_X10_isSign dX10_expression_121 (kM_0 hM) (by decide) rfl rfl (Nat.le_of_ble_eq_true rfl) ?_
        rw [hk.sg (c := 61) (by decide), show decide ((tkAt T i).1 = nI 61) = true from decide_eq_true c61]
        refine r_if_eq (tgt := 186) dX10_expression_124 (by decide) (fun hz => absurd hz (show ¬ _ from (by decide))) (fun _ => ?_)
        refine r_aload_n dX10_expression_127 rfl ?_
        refine r_getR dX10_expression_128 fl_X10_80 rfl (kM_0 hM) (pM_44 hM) ?_
        refine r_aload_n dX10_expression_131 rfl ?_
        refine r_getI dX10_expression_132 fl_X10_290 rfl (kM_0 hM) ?_
        rw [hD.1]
        refine r_zald dX10_expression_135 (aM_44 hM) (nI_in8 9 (by have := hD.2.1; omega) (by decide)) (nI_clamp (by have := hD.2.1; omega)) ?_
        rw [hD.2.2 _ (Nat.succ_le_succ (Nat.zero_le _)) (Nat.le_refl _), eq_true_of_ne_false ct]
        refine r_if_ne (tgt := 186) dX10_expression_136 (by decide) (fun _ => ?_) (fun hz => absurd hz (show ¬ _ from (by decide)))
        exact to186 _ (fun q => ct q.2)
    refine r_iload_n dX10_expression_29 rfl ?_
    refine r_if_eq (tgt := 325) dX10_expression_30 (by decide) (fun hz => absurd hz (show ¬ _ from (by decide))) (fun _ => ?_)
    refine r_aload_n dX10_expression_33 rfl ?_
    refine r_virtE (c_good m hM) lk_X10_252 mc_X10_isGood dX10_expression_34 (kM_0 hM) (by decide) rfl rfl (Nat.le_of_ble_eq_true rfl) ?_
    rw [h16, show decide (nI 0 = 0) = true from rfl]
    refine r_if_eq (tgt := 325) dX10_expression_37 (by decide) (fun hz => absurd hz (show ¬ _ from (by decide))) (fun _ => ?_)
    refine r_aload_n dX10_expression_40 rfl ?_
    refine r_virtE (c_known m (kwI (tkK T i)) hM hk.2.2.1.symm) lk_X10_262 mc_X10_knownWord dX10_expression_41 (kM_0 hM) (by decide) rfl rfl (Nat.le_of_ble_eq_true rfl) ?_
    refine r_istore_n dX10_expression_44 (by decide) ?_
    refine r_iload_n dX10_expression_45 rfl ?_
    refine r_bipush (v := nI 10) dX10_expression_46 (by decide) ?_
    refine r_icmp_eq (tgt := 57) dX10_expression_48 (by decide) (fun hz => absurd hz (show ¬ _ from (kwI_10 c134))) (fun _ => ?_)
    refine r_iload_n dX10_expression_51 rfl ?_
    refine r_bipush (v := nI 11) dX10_expression_52 (by decide) ?_
    refine r_icmp_ne (tgt := 109) dX10_expression_54 (by decide) (fun _ => ?_) (fun hz => absurd hz (show ¬ _ from (kwI_11 c133)))
    refine r_aload_n dX10_expression_109 rfl ?_
    refine r_bipush (v := nI 60) dX10_expression_110 (by decide) ?_
    refine r_virtE (c_sign m (nI 60) hM) lk_X10_293 mc_X10_isSign dX10_expression_112 (kM_0 hM) (by decide) rfl rfl (Nat.le_of_ble_eq_true rfl) ?_
    rw [hk.sg (c := 60) (by decide), show decide ((tkAt T i).1 = nI 60) = false from decide_eq_false c60]
    refine r_if_ne (tgt := 127) dX10_expression_115 (by decide) (fun hz => absurd (show _ from rfl) hz) (fun _ => ?_)
    refine r_aload_n dX10_expression_118 rfl ?_
    refine r_bipush (v := nI 61) dX10_expression_119 (by decide) ?_
    refine r_virtE (c_sign m (nI 61) hM) lk_X10_293 mc_X10_isSign dX10_expression_121 (kM_0 hM) (by decide) rfl rfl (Nat.le_of_ble_eq_true rfl) ?_
    rw [hk.sg (c := 61) (by decide), show decide ((tkAt T i).1 = nI 61) = false from decide_eq_false c61]
    refine r_if_eq (tgt := 186) dX10_expression_124 (by decide) (fun _ => ?_) (fun hz => absurd (show _ from rfl) hz)
    exact to186 _ (fun q => q.1.elim c60 c61)


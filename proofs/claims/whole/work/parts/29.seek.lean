/-! THE SEARCH, IN THE CLASS -/
theorem dX6_seek_0 : decode cX6_seek 0 = .ok (.aload_n 0, 1) := by decide +kernel
theorem dX6_seek_1 : decode cX6_seek 1 = .ok (.iconst 0, 1) := by decide +kernel
theorem dX6_seek_2 : decode cX6_seek 2 = .ok (.putfield 43, 3) := by decide +kernel
theorem dX6_seek_5 : decode cX6_seek 5 = .ok (.aload_n 0, 1) := by decide +kernel
theorem dX6_seek_6 : decode cX6_seek 6 = .ok (.iconst 0, 1) := by decide +kernel
theorem dX6_seek_7 : decode cX6_seek 7 = .ok (.putfield 46, 3) := by decide +kernel
theorem dX6_seek_10 : decode cX6_seek 10 = .ok (.aload_n 0, 1) := by decide +kernel
theorem dX6_seek_11 : decode cX6_seek 11 = .ok (.getfield 33, 3) := by decide +kernel
theorem dX6_seek_14 : decode cX6_seek 14 = .ok (.iconst 0, 1) := by decide +kernel
theorem dX6_seek_15 : decode cX6_seek 15 = .ok (.invokestatic 49, 3) := by decide +kernel
theorem dX6_seek_18 : decode cX6_seek 18 = .ok (.aload_n 0, 1) := by decide +kernel
theorem dX6_seek_19 : decode cX6_seek 19 = .ok (.getfield 40, 3) := by decide +kernel
theorem dX6_seek_22 : decode cX6_seek 22 = .ok (.iconst 0, 1) := by decide +kernel
theorem dX6_seek_23 : decode cX6_seek 23 = .ok (.invokestatic 49, 3) := by decide +kernel
theorem dX6_seek_26 : decode cX6_seek 26 = .ok (.aload_n 0, 1) := by decide +kernel
theorem dX6_seek_27 : decode cX6_seek 27 = .ok (.getfield 9, 3) := by decide +kernel
theorem dX6_seek_30 : decode cX6_seek 30 = .ok (.ifnull 10, 3) := by decide +kernel
theorem dX6_seek_33 : decode cX6_seek 33 = .ok (.aload_n 0, 1) := by decide +kernel
theorem dX6_seek_34 : decode cX6_seek 34 = .ok (.getfield 15, 3) := by decide +kernel
theorem dX6_seek_37 : decode cX6_seek 37 = .ok (.ifnonnull 8, 3) := by decide +kernel
theorem dX6_seek_40 : decode cX6_seek 40 = .ok (.aload_n 0, 1) := by decide +kernel
theorem dX6_seek_41 : decode cX6_seek 41 = .ok (.getfield 46, 3) := by decide +kernel
theorem dX6_seek_44 : decode cX6_seek 44 = .ok (.ireturn, 1) := by decide +kernel
theorem dX6_seek_45 : decode cX6_seek 45 = .ok (.aload_n 0, 1) := by decide +kernel
theorem dX6_seek_46 : decode cX6_seek 46 = .ok (.getfield 9, 3) := by decide +kernel
theorem dX6_seek_49 : decode cX6_seek 49 = .ok (.getfield 55, 3) := by decide +kernel
theorem dX6_seek_52 : decode cX6_seek 52 = .ok (.iconst 1, 1) := by decide +kernel
theorem dX6_seek_53 : decode cX6_seek 53 = .ok (.isub, 1) := by decide +kernel
theorem dX6_seek_54 : decode cX6_seek 54 = .ok (.istore_n 2, 1) := by decide +kernel
theorem dX6_seek_55 : decode cX6_seek 55 = .ok (.iload_n 2, 1) := by decide +kernel
theorem dX6_seek_56 : decode cX6_seek 56 = .ok (.ifCond .ge 12, 3) := by decide +kernel
theorem dX6_seek_59 : decode cX6_seek 59 = .ok (.aload_n 0, 1) := by decide +kernel
theorem dX6_seek_60 : decode cX6_seek 60 = .ok (.invokevirtual 72, 3) := by decide +kernel
theorem dX6_seek_63 : decode cX6_seek 63 = .ok (.aload_n 0, 1) := by decide +kernel
theorem dX6_seek_64 : decode cX6_seek 64 = .ok (.getfield 46, 3) := by decide +kernel
theorem dX6_seek_67 : decode cX6_seek 67 = .ok (.ireturn, 1) := by decide +kernel
theorem dX6_seek_68 : decode cX6_seek 68 = .ok (.iconst 0, 1) := by decide +kernel
theorem dX6_seek_69 : decode cX6_seek 69 = .ok (.istore_n 3, 1) := by decide +kernel
theorem dX6_seek_70 : decode cX6_seek 70 = .ok (.iconst 0, 1) := by decide +kernel
theorem dX6_seek_71 : decode cX6_seek 71 = .ok (.istore 4, 2) := by decide +kernel
theorem dX6_seek_73 : decode cX6_seek 73 = .ok (.iload 4, 2) := by decide +kernel
theorem dX6_seek_75 : decode cX6_seek 75 = .ok (.ldc 75, 2) := by decide +kernel
theorem dX6_seek_77 : decode cX6_seek 77 = .ok (.if_icmp .ge 143, 3) := by decide +kernel
theorem dX6_seek_80 : decode cX6_seek 80 = .ok (.iload_n 3, 1) := by decide +kernel
theorem dX6_seek_81 : decode cX6_seek 81 = .ok (.ifCond .lt 139, 3) := by decide +kernel
theorem dX6_seek_84 : decode cX6_seek 84 = .ok (.aload_n 0, 1) := by decide +kernel
theorem dX6_seek_85 : decode cX6_seek 85 = .ok (.getfield 33, 3) := by decide +kernel
theorem dX6_seek_88 : decode cX6_seek 88 = .ok (.iload_n 3, 1) := by decide +kernel
theorem dX6_seek_89 : decode cX6_seek 89 = .ok (.iaload, 1) := by decide +kernel
theorem dX6_seek_90 : decode cX6_seek 90 = .ok (.aload_n 0, 1) := by decide +kernel
theorem dX6_seek_91 : decode cX6_seek 91 = .ok (.getfield 9, 3) := by decide +kernel
theorem dX6_seek_94 : decode cX6_seek 94 = .ok (.getfield 76, 3) := by decide +kernel
theorem dX6_seek_97 : decode cX6_seek 97 = .ok (.if_icmp .lt 16, 3) := by decide +kernel
theorem dX6_seek_100 : decode cX6_seek 100 = .ok (.aload_n 0, 1) := by decide +kernel
theorem dX6_seek_101 : decode cX6_seek 101 = .ok (.getfield 33, 3) := by decide +kernel
theorem dX6_seek_104 : decode cX6_seek 104 = .ok (.iload_n 3, 1) := by decide +kernel
theorem dX6_seek_105 : decode cX6_seek 105 = .ok (.iconst 0, 1) := by decide +kernel
theorem dX6_seek_106 : decode cX6_seek 106 = .ok (.iastore, 1) := by decide +kernel
theorem dX6_seek_107 : decode cX6_seek 107 = .ok (.iinc 3 (-1), 3) := by decide +kernel
theorem dX6_seek_110 : decode cX6_seek 110 = .ok (.goto 104, 3) := by decide +kernel
theorem dX6_seek_113 : decode cX6_seek 113 = .ok (.aload_n 0, 1) := by decide +kernel
theorem dX6_seek_114 : decode cX6_seek 114 = .ok (.getfield 33, 3) := by decide +kernel
theorem dX6_seek_117 : decode cX6_seek 117 = .ok (.iload_n 3, 1) := by decide +kernel
theorem dX6_seek_118 : decode cX6_seek 118 = .ok (.dup2, 1) := by decide +kernel
theorem dX6_seek_119 : decode cX6_seek 119 = .ok (.iaload, 1) := by decide +kernel
theorem dX6_seek_120 : decode cX6_seek 120 = .ok (.iconst 1, 1) := by decide +kernel
theorem dX6_seek_121 : decode cX6_seek 121 = .ok (.iadd, 1) := by decide +kernel
theorem dX6_seek_122 : decode cX6_seek 122 = .ok (.iastore, 1) := by decide +kernel
theorem dX6_seek_123 : decode cX6_seek 123 = .ok (.iload_n 3, 1) := by decide +kernel
theorem dX6_seek_124 : decode cX6_seek 124 = .ok (.aload_n 0, 1) := by decide +kernel
theorem dX6_seek_125 : decode cX6_seek 125 = .ok (.getfield 26, 3) := by decide +kernel
theorem dX6_seek_128 : decode cX6_seek 128 = .ok (.if_icmp .ne 19, 3) := by decide +kernel
theorem dX6_seek_131 : decode cX6_seek 131 = .ok (.aload_n 0, 1) := by decide +kernel
theorem dX6_seek_132 : decode cX6_seek 132 = .ok (.getfield 33, 3) := by decide +kernel
theorem dX6_seek_135 : decode cX6_seek 135 = .ok (.iload_n 3, 1) := by decide +kernel
theorem dX6_seek_136 : decode cX6_seek 136 = .ok (.iaload, 1) := by decide +kernel
theorem dX6_seek_137 : decode cX6_seek 137 = .ok (.aload_n 0, 1) := by decide +kernel
theorem dX6_seek_138 : decode cX6_seek 138 = .ok (.getfield 30, 3) := by decide +kernel
theorem dX6_seek_141 : decode cX6_seek 141 = .ok (.if_icmp .ne 6, 3) := by decide +kernel
theorem dX6_seek_144 : decode cX6_seek 144 = .ok (.goto 70, 3) := by decide +kernel
theorem dX6_seek_147 : decode cX6_seek 147 = .ok (.aload_n 0, 1) := by decide +kernel
theorem dX6_seek_148 : decode cX6_seek 148 = .ok (.getfield 43, 3) := by decide +kernel
theorem dX6_seek_151 : decode cX6_seek 151 = .ok (.sipush 20000, 3) := by decide +kernel
theorem dX6_seek_154 : decode cX6_seek 154 = .ok (.if_icmp .ne 14, 3) := by decide +kernel
theorem dX6_seek_157 : decode cX6_seek 157 = .ok (.aload_n 0, 1) := by decide +kernel
theorem dX6_seek_158 : decode cX6_seek 158 = .ok (.bipush (-2), 2) := by decide +kernel
theorem dX6_seek_160 : decode cX6_seek 160 = .ok (.putfield 46, 3) := by decide +kernel
theorem dX6_seek_163 : decode cX6_seek 163 = .ok (.aload_n 0, 1) := by decide +kernel
theorem dX6_seek_164 : decode cX6_seek 164 = .ok (.getfield 46, 3) := by decide +kernel
theorem dX6_seek_167 : decode cX6_seek 167 = .ok (.ireturn, 1) := by decide +kernel
theorem dX6_seek_168 : decode cX6_seek 168 = .ok (.aload_n 0, 1) := by decide +kernel
theorem dX6_seek_169 : decode cX6_seek 169 = .ok (.dup, 1) := by decide +kernel
theorem dX6_seek_170 : decode cX6_seek 170 = .ok (.getfield 43, 3) := by decide +kernel
theorem dX6_seek_173 : decode cX6_seek 173 = .ok (.iconst 1, 1) := by decide +kernel
theorem dX6_seek_174 : decode cX6_seek 174 = .ok (.iadd, 1) := by decide +kernel
theorem dX6_seek_175 : decode cX6_seek 175 = .ok (.putfield 43, 3) := by decide +kernel
theorem dX6_seek_178 : decode cX6_seek 178 = .ok (.aload_n 0, 1) := by decide +kernel
theorem dX6_seek_179 : decode cX6_seek 179 = .ok (.iload_n 3, 1) := by decide +kernel
theorem dX6_seek_180 : decode cX6_seek 180 = .ok (.invokevirtual 79, 3) := by decide +kernel
theorem dX6_seek_183 : decode cX6_seek 183 = .ok (.ifCond .eq 31, 3) := by decide +kernel
theorem dX6_seek_186 : decode cX6_seek 186 = .ok (.iload_n 3, 1) := by decide +kernel
theorem dX6_seek_187 : decode cX6_seek 187 = .ok (.iload_n 2, 1) := by decide +kernel
theorem dX6_seek_188 : decode cX6_seek 188 = .ok (.if_icmp .ge 9, 3) := by decide +kernel
theorem dX6_seek_191 : decode cX6_seek 191 = .ok (.iinc 3 1, 3) := by decide +kernel
theorem dX6_seek_194 : decode cX6_seek 194 = .ok (.goto 20, 3) := by decide +kernel
theorem dX6_seek_197 : decode cX6_seek 197 = .ok (.aload_n 0, 1) := by decide +kernel
theorem dX6_seek_198 : decode cX6_seek 198 = .ok (.invokevirtual 72, 3) := by decide +kernel
theorem dX6_seek_201 : decode cX6_seek 201 = .ok (.aload_n 0, 1) := by decide +kernel
theorem dX6_seek_202 : decode cX6_seek 202 = .ok (.getfield 46, 3) := by decide +kernel
theorem dX6_seek_205 : decode cX6_seek 205 = .ok (.iload_n 1, 1) := by decide +kernel
theorem dX6_seek_206 : decode cX6_seek 206 = .ok (.if_icmp .ne 8, 3) := by decide +kernel
theorem dX6_seek_209 : decode cX6_seek 209 = .ok (.aload_n 0, 1) := by decide +kernel
theorem dX6_seek_210 : decode cX6_seek 210 = .ok (.getfield 46, 3) := by decide +kernel
theorem dX6_seek_213 : decode cX6_seek 213 = .ok (.ireturn, 1) := by decide +kernel
theorem dX6_seek_214 : decode cX6_seek 214 = .ok (.iinc 4 1, 3) := by decide +kernel
theorem dX6_seek_217 : decode cX6_seek 217 = .ok (.goto (-144), 3) := by decide +kernel
theorem dX6_seek_220 : decode cX6_seek 220 = .ok (.aload_n 0, 1) := by decide +kernel
theorem dX6_seek_221 : decode cX6_seek 221 = .ok (.getfield 46, 3) := by decide +kernel
theorem dX6_seek_224 : decode cX6_seek 224 = .ok (.ireturn, 1) := by decide +kernel

def skv (sp : Bool) (fs : List (Nat → Nat)) : Int32 := if sp then -2 else nI fs.length
def skP (b o H : Nat) (S0 r0 : Nat → Int32) (J0 : Nat → Int64) (res : Nat × List (Nat → Nat) × Bool) (n : Nat) (kd : mK) (I : mI) (J : mJ) (P : mP) : am_Post := fun z n' kd' I' J' P' => ∃ Q R : Nat → Int32, am_is (some (.int (skv res.2.2 res.2.1))) n kd (sM I b o Q R (SR H S0 res.2.1) (oR r0 (nI res.1) (skv res.2.2 res.2.1))) (va_up J (o + 4) (JR H J0 res.2.1)) P z n' kd' I' J' P'
theorem up_row {R : Nat → Int32} {N : Nat → Nat} (h v : Nat) (hR : ∀ j, j < 8 → R j = nI (N j)) : ∀ j, j < 8 → va_up R h (nI v) j = nI (upN N h v j) := by
  intro j hj
  unfold upN
  by_cases e : j = h
  · subst e; rw [am_up_s, if_pos rfl]
  · rw [am_up_n _ _ e, if_neg e, hR j hj]
theorem upN_s (N : Nat → Nat) (h v : Nat) : upN N h v h = v := by simp [upN]
theorem upN_le {N : Nat → Nat} {h v M : Nat} (hN : ∀ j, N j ≤ M) (hv : v ≤ M) : ∀ j, upN N h v j ≤ M := by
  intro j; unfold upN; split; exact hv; exact hN j
theorem JR_step {J : mJ} {H o : Nat} {J0 : Nat → Int64} {fs : List (Nat → Nat)} {R : Nat → Int32} {N : Nat → Nat} (hR : ∀ j, j < H → R j = nI (N j)) : (if fs.length < 1000 then va_up (va_up J (o + 4) (JR H J0 fs)) (o + 4) (va_up (va_up J (o + 4) (JR H J0 fs) (o + 4)) fs.length (pkR R H)) else va_up J (o + 4) (JR H J0 fs)) = va_up J (o + 4) (JR H J0 (N :: fs)) := by
  rw [JR]
  split
  · rw [am_up_s, am_up_up, pkR_congr (N := R) (N' := rN N) hR]
  · rfl
theorem ridUp {I : mI} {b o H : Nat} {Q R S r : Nat → Int32} {rid : Nat → List Nat} {k : Nat} (hbo : b + 9 < o) (h : ridOk I b H rid k) : ridOk (sM I b o Q R S r) b H rid k := by
  unfold ridOk at h ⊢
  rw [sM_n (by omega) (by omega) (by omega) (by omega), sM_n (by omega) (by omega) (by omega) (by omega), sM_n (by omega) (by omega) (by omega) (by omega)]
  exact h
theorem stT {I : mI} {b o l H h : Nat} {Q R S r : Nat → Int32} {rid : Nat → List Nat} {N : Nat → Nat} (hbl : b + 9 < l) (hlo : l + 5 < o) (hh : h < H) (hH : H ≤ 8) (hR : ∀ j, j < 8 → R j = nI (N j)) : stS (sM I b o Q R S r) o b l H rid h (N h) = TS I o b l H rid N h := by
  unfold TS
  refine stS_congr ?_ ?_ ?_ ?_ ?_ ?_ hh
  · rw [sM_n (by omega) (by omega) (by omega) (by omega), am_up_n _ _ (by omega)]
  · rw [sM_n (by omega) (by omega) (by omega) (by omega), am_up_n _ _ (by omega)]
  · rw [sM_n (by omega) (by omega) (by omega) (by omega), am_up_n _ _ (by omega)]
  · rw [sM_n (by omega) (by omega) (by omega) (by omega), am_up_n _ _ (by omega)]
  · rw [sM_n (by omega) (by omega) (by omega) (by omega), am_up_n _ _ (by omega)]
  · intro j hj; rw [sM_3, am_up_s, hR j (by omega)]; rfl
set_option maxHeartbeats 4000000 in
set_option maxRecDepth 100000 in
theorem w_X6_seek (o b l H M E : Nat) (rid : Nat → List Nat) (S0 r0 : Nat → Int32) (J0 : Nat → Int64) {n : Nat} {kd : mK} {I : mI} {J : mJ} {P : mP} (hS : kS kd P b) (hL : kL kd P l) (hQ : kQ kd P o) (hpb : P o 0 = some b) (hpl : P o 1 = some l) (hbl : b + 9 < l) (hlo : l + 5 < o) (hH8 : H ≤ 8) (hH1 : 1 ≤ H) (hH : I b 0 = nI H) (hM : I b 1 = nI M) (hM20 : M ≤ 20) (hE : E ≤ 1001) (hrd : ∀ h, h < H → ∀ k, k < 8 → bt (I (o + 1) h) k = true → ridOk I b H rid k) : ∀ (f : Nat) {hh : Nat} {N : Nat → Nat} {t : Nat} {fs : List (Nat → Nat)} {s : Nat} {R Q : Nat → Int32} {res : Nat × List (Nat → Nat) × Bool}, sk (TS I o b l H rid) (barS (r0 4) (r0 5)) H M E f hh N t fs = some res → s + f ≤ 100000 → (∀ j, j < 8 → R j = nI (N j)) → hh ≤ H → (∀ j, N j ≤ M) → t ≤ 20000 → fs.length < E → Ru yX6_seek.cls cX6_seek 5 (some .int) yX6_seek.name 6 (skP b o H S0 r0 J0 res n kd I J P) 0 0 73 [some (.ref o), some (.int (nI E)), some (.int (nI (H - 1))), some (.int (hz hh)), some (.int (nI s))] [] n kd (sM I b o Q R (SR H S0 fs) (oR r0 (nI t) (nI fs.length))) (va_up J (o + 4) (JR H J0 fs)) P := by
  have hS0 := hS
  obtain ⟨s0, s1, s2, s3, s4, s5, s6, s7, s8, s9, p4, p5, p7, p8, p9, p11, p12, p13, p14⟩ := hS
  have hL0 := hL
  obtain ⟨l0, l1, l2, l3, l4, l5, q0, q1, q3, q5, q6⟩ := hL
  have hQ0 := hQ
  obtain ⟨t0, t1, t2, t3, t4, t5, u2, u3, u6, u7, u8⟩ := hQ
  intro f
  induction f with
  | zero => intro hh N t fs s R Q res hs; rw [sk] at hs; cases hs
  | succ f ih =>
    intro hh N t fs s R Q res hs hsf hR hhH hN ht hF
    cases hh with
    | zero =>
      rw [sk] at hs
      cases hs
      refine r_iload dX6_seek_73 rfl ?_
      refine r_ldc dX6_seek_75 ic_X6_75 ?_
      refine r_icmp_ge (tgt := 220) dX6_seek_77 (by decide) (fun hz => absurd hz (show ¬ _ from (by rw [show (100000 : Int32) = nI 100000 from rfl, nI_leI (by omega) (by omega)]; omega))) (fun _ => ?_)
      refine r_iload_n dX6_seek_80 rfl ?_
      refine r_if_lt (tgt := 220) dX6_seek_81 (by decide) (fun _ => ?_) (fun hz => absurd (show _ from (by decide)) hz)
      refine r_aload_n dX6_seek_220 rfl ?_
      refine r_getI dX6_seek_221 fl_X6_46 rfl t0 ?_
      rw [sM_o, oR10]
      refine r_iret rfl dX6_seek_224 ?_
      exact ⟨Q, R, rfl, rfl, rfl, rfl, rfl, rfl⟩
    | succ h =>
      rw [sk] at hs
      rw [show hz (h + 1) = nI h from rfl]
      have hNh := hN h
      by_cases hc : M ≤ N h
      · skip
        refine r_iload dX6_seek_73 rfl ?_
        refine r_ldc dX6_seek_75 ic_X6_75 ?_
        refine r_icmp_ge (tgt := 220) dX6_seek_77 (by decide) (fun hz => absurd hz (show ¬ _ from (by rw [show (100000 : Int32) = nI 100000 from rfl, nI_leI (by omega) (by omega)]; omega))) (fun _ => ?_)
        refine r_iload_n dX6_seek_80 rfl ?_
        refine r_if_lt (tgt := 220) dX6_seek_81 (by decide) (fun hz => absurd hz (show ¬ _ from (z_nlt (by omega)))) (fun _ => ?_)
        refine r_aload_n dX6_seek_84 rfl ?_
        refine r_getR dX6_seek_85 fl_X6_33 rfl (by assumption) (by assumption) ?_
        refine r_iload_n dX6_seek_88 rfl ?_
        refine r_iald dX6_seek_89 t3 (nI_in8 8 (by omega) (by decide)) (nI_clamp (by omega)) ?_
        rw [sM_3, hR h (by omega)]
        refine r_aload_n dX6_seek_90 rfl ?_
        refine r_getR dX6_seek_91 fl_X6_9 rfl (by assumption) (by assumption) ?_
        refine r_getI dX6_seek_94 fl_X6_76 rfl s0 ?_
        rw [sM_n (by omega) (by omega) (by omega) (by omega), hM]
        refine r_icmp_lt (tgt := 113) dX6_seek_97 (by decide) (fun hz => absurd hz (show ¬ _ from (by rw [nI_ltI (by omega) (by omega)]; omega))) (fun _ => ?_)
        refine r_aload_n dX6_seek_100 rfl ?_
        refine r_getR dX6_seek_101 fl_X6_33 rfl (by assumption) (by assumption) ?_
        refine r_iload_n dX6_seek_104 rfl ?_
        refine r_iconst (v := nI 0) dX6_seek_105 (by decide) ?_
        refine r_iast dX6_seek_106 t3 (nI_in8 8 (by omega) (by decide)) (nI_clamp (by omega)) ?_
        rw [sM_3, sM_u3]
        refine r_iinc (v := hz h) dX6_seek_107 rfl (hz_dec h) ?_
        refine r_goto (tgt := 214) dX6_seek_110 (by decide) ?_
        refine r_iinc (v := nI (s + 1)) dX6_seek_214 rfl (nI_inc s) ?_
        refine r_goto (tgt := 73) dX6_seek_217 (by decide) ?_
        rw [if_pos hc] at hs
        exact ih hs (by omega) (up_row h 0 hR) (by omega) (upN_le hN (Nat.zero_le M)) ht hF
      · rw [if_neg hc] at hs
        by_cases hb : (nI h = r0 4 ∧ nI (N h + 1) = r0 5)
        · rw [if_pos (show barS (r0 4) (r0 5) h (N h + 1) = true by unfold barS; rw [decide_eq_true hb.1, decide_eq_true hb.2]; rfl)] at hs
          refine r_iload dX6_seek_73 rfl ?_
          refine r_ldc dX6_seek_75 ic_X6_75 ?_
          refine r_icmp_ge (tgt := 220) dX6_seek_77 (by decide) (fun hz => absurd hz (show ¬ _ from (by rw [show (100000 : Int32) = nI 100000 from rfl, nI_leI (by omega) (by omega)]; omega))) (fun _ => ?_)
          refine r_iload_n dX6_seek_80 rfl ?_
          refine r_if_lt (tgt := 220) dX6_seek_81 (by decide) (fun hz => absurd hz (show ¬ _ from (z_nlt (by omega)))) (fun _ => ?_)
          refine r_aload_n dX6_seek_84 rfl ?_
          refine r_getR dX6_seek_85 fl_X6_33 rfl (by assumption) (by assumption) ?_
          refine r_iload_n dX6_seek_88 rfl ?_
          refine r_iald dX6_seek_89 t3 (nI_in8 8 (by omega) (by decide)) (nI_clamp (by omega)) ?_
          rw [sM_3, hR h (by omega)]
          refine r_aload_n dX6_seek_90 rfl ?_
          refine r_getR dX6_seek_91 fl_X6_9 rfl (by assumption) (by assumption) ?_
          refine r_getI dX6_seek_94 fl_X6_76 rfl s0 ?_
          rw [sM_n (by omega) (by omega) (by omega) (by omega), hM]
          refine r_icmp_lt (tgt := 113) dX6_seek_97 (by decide) (fun _ => ?_) (fun hz => absurd (show _ from (by rw [nI_ltI (by omega) (by omega)]; omega)) hz)
          refine r_aload_n dX6_seek_113 rfl ?_
          refine r_getR dX6_seek_114 fl_X6_33 rfl (by assumption) (by assumption) ?_
          refine r_iload_n dX6_seek_117 rfl ?_
          refine r_dup2 dX6_seek_118 rfl rfl ?_
          refine r_iald dX6_seek_119 t3 (nI_in8 8 (by omega) (by decide)) (nI_clamp (by omega)) ?_
          rw [sM_3, hR h (by omega)]
          refine r_iconst (v := nI 1) dX6_seek_120 (by decide) ?_
          refine r_iadd dX6_seek_121 ?_
          rw [nI_add (N h) 1]
          refine r_iast dX6_seek_122 t3 (nI_in8 8 (by omega) (by decide)) (nI_clamp (by omega)) ?_
          rw [sM_3, sM_u3]
          refine r_iload_n dX6_seek_123 rfl ?_
          refine r_aload_n dX6_seek_124 rfl ?_
          refine r_getI dX6_seek_125 fl_X6_26 rfl t0 ?_
          rw [sM_o, oR4]
          refine r_icmp_ne (tgt := 147) dX6_seek_128 (by decide) (fun hz => absurd (show _ from hb.1) hz) (fun _ => ?_)
          refine r_aload_n dX6_seek_131 rfl ?_
          refine r_getR dX6_seek_132 fl_X6_33 rfl (by assumption) (by assumption) ?_
          refine r_iload_n dX6_seek_135 rfl ?_
          refine r_iald dX6_seek_136 t3 (nI_in8 8 (by omega) (by decide)) (nI_clamp (by omega)) ?_
          rw [sM_3, am_up_s R]
          refine r_aload_n dX6_seek_137 rfl ?_
          refine r_getI dX6_seek_138 fl_X6_30 rfl t0 ?_
          rw [sM_o, oR5]
          refine r_icmp_ne (tgt := 147) dX6_seek_141 (by decide) (fun hz => absurd (show _ from hb.2) hz) (fun _ => ?_)
          refine r_goto (tgt := 214) dX6_seek_144 (by decide) ?_
          refine r_iinc (v := nI (s + 1)) dX6_seek_214 rfl (nI_inc s) ?_
          refine r_goto (tgt := 73) dX6_seek_217 (by decide) ?_
          exact ih hs (by omega) (up_row h (N h + 1) hR) (by omega) (upN_le hN (by omega)) ht hF
        · rw [if_neg (show ¬ barS (r0 4) (r0 5) h (N h + 1) = true by unfold barS; intro q; simp only [Bool.and_eq_true, decide_eq_true_eq] at q; exact hb q)] at hs
          have h147 : Ru yX6_seek.cls cX6_seek 5 (some .int) yX6_seek.name 6 (skP b o H S0 r0 J0 res n kd I J P) 0 0 147 [some (.ref o), some (.int (nI E)), some (.int (nI (H - 1))), some (.int (nI h)), some (.int (nI s))] [] n kd (sM I b o Q (va_up R h (nI (N h + 1))) (SR H S0 fs) (oR r0 (nI t) (nI fs.length))) (va_up J (o + 4) (JR H J0 fs)) P := by
            by_cases ht2 : t = 20000
            · skip
              refine r_aload_n dX6_seek_147 rfl ?_
              refine r_getI dX6_seek_148 fl_X6_43 rfl t0 ?_
              rw [sM_o, oR9]
              refine r_sipush (v := nI 20000) dX6_seek_151 (by decide) ?_
              refine r_icmp_ne (tgt := 168) dX6_seek_154 (by decide) (fun hz => absurd (show _ from (by rw [nI_eq (by omega) (by omega)]; omega)) hz) (fun _ => ?_)
              refine r_aload_n dX6_seek_157 rfl ?_
              refine r_bipush (v := (-2)) dX6_seek_158 (by decide) ?_
              refine r_putI dX6_seek_160 fl_X6_46 rfl rfl t0 ?_
              rw [sM_o, sM_uo, oR_10]
              refine r_aload_n dX6_seek_163 rfl ?_
              refine r_getI dX6_seek_164 fl_X6_46 rfl t0 ?_
              rw [sM_o, oR10]
              refine r_iret rfl dX6_seek_167 ?_
              rw [if_pos ht2] at hs
              cases hs
              exact ⟨Q, (va_up R h (nI (N h + 1))), rfl, rfl, rfl, rfl, rfl, rfl⟩
            · rw [if_neg ht2] at hs
              cases hT : TS I o b l H rid (upN N h (N h + 1)) h with
              | false =>
                rw [hT] at hs
                simp only [Bool.false_eq_true, if_false] at hs
                refine r_aload_n dX6_seek_147 rfl ?_
                refine r_getI dX6_seek_148 fl_X6_43 rfl t0 ?_
                rw [sM_o, oR9]
                refine r_sipush (v := nI 20000) dX6_seek_151 (by decide) ?_
                refine r_icmp_ne (tgt := 168) dX6_seek_154 (by decide) (fun _ => ?_) (fun hz => absurd hz (show ¬ _ from (by rw [nI_eq (by omega) (by omega)]; omega)))
                refine r_aload_n dX6_seek_168 rfl ?_
                refine r_dup dX6_seek_169 rfl ?_
                refine r_getI dX6_seek_170 fl_X6_43 rfl t0 ?_
                rw [sM_o, oR9]
                refine r_iconst (v := nI 1) dX6_seek_173 (by decide) ?_
                refine r_iadd dX6_seek_174 ?_
                rw [nI_add t 1]
                refine r_putI dX6_seek_175 fl_X6_43 rfl rfl t0 ?_
                rw [sM_o, sM_uo, oR_9]
                refine r_aload_n dX6_seek_178 rfl ?_
                refine r_iload_n dX6_seek_179 rfl ?_
                refine r_virtS (c_X6_stands o b l H h (N h + 1) rid hS0 hL0 hQ0 hpb hpl hbl hlo hH8 (by rw [sM_n (by omega) (by omega) (by omega) (by omega)]; exact hH) (by omega) (by rw [sM_3, am_up_s R]) (by have := hN h; omega) (fun k hk hbk => ridUp (by omega) (hrd h (by omega) k hk (by rw [sM_n (by omega) (by omega) (by omega) (by omega)] at hbk; exact hbk)))) lk_X6_79 mc_X6_stands dX6_seek_180 t0 (by decide) rfl rfl (Nat.le_of_ble_eq_true rfl) (fun Q2 => ?_)
                rw [sM_u8 (by omega), show stS (sM I b o Q (va_up R h (nI (N h + 1))) (SR H S0 fs) (oR r0 (nI (t + 1)) (nI fs.length))) o b l H rid h (N h + 1) = TS I o b l H rid (upN N h (N h + 1)) h from by have := stT (I := I) (Q := Q) (R := (va_up R h (nI (N h + 1)))) (S := SR H S0 fs) (r := oR r0 (nI (t + 1)) (nI fs.length)) (rid := rid) (N := (upN N h (N h + 1))) hbl hlo (by omega : h < H) hH8 (up_row h (N h + 1) hR); rwa [upN_s] at this, hT]
                refine r_if_eq (tgt := 214) dX6_seek_183 (by decide) (fun _ => ?_) (fun hz => absurd (show _ from rfl) hz)
                refine r_iinc (v := nI (s + 1)) dX6_seek_214 rfl (nI_inc s) ?_
                refine r_goto (tgt := 73) dX6_seek_217 (by decide) ?_
                exact ih hs (by omega) (up_row h (N h + 1) hR) (by omega) (upN_le hN (by omega)) (by omega) hF
              | true =>
                rw [hT] at hs
                simp only [if_true] at hs
                by_cases hl : h + 1 < H
                · rw [if_pos hl] at hs
                  refine r_aload_n dX6_seek_147 rfl ?_
                  refine r_getI dX6_seek_148 fl_X6_43 rfl t0 ?_
                  rw [sM_o, oR9]
                  refine r_sipush (v := nI 20000) dX6_seek_151 (by decide) ?_
                  refine r_icmp_ne (tgt := 168) dX6_seek_154 (by decide) (fun _ => ?_) (fun hz => absurd hz (show ¬ _ from (by rw [nI_eq (by omega) (by omega)]; omega)))
                  refine r_aload_n dX6_seek_168 rfl ?_
                  refine r_dup dX6_seek_169 rfl ?_
                  refine r_getI dX6_seek_170 fl_X6_43 rfl t0 ?_
                  rw [sM_o, oR9]
                  refine r_iconst (v := nI 1) dX6_seek_173 (by decide) ?_
                  refine r_iadd dX6_seek_174 ?_
                  rw [nI_add t 1]
                  refine r_putI dX6_seek_175 fl_X6_43 rfl rfl t0 ?_
                  rw [sM_o, sM_uo, oR_9]
                  refine r_aload_n dX6_seek_178 rfl ?_
                  refine r_iload_n dX6_seek_179 rfl ?_
                  refine r_virtS (c_X6_stands o b l H h (N h + 1) rid hS0 hL0 hQ0 hpb hpl hbl hlo hH8 (by rw [sM_n (by omega) (by omega) (by omega) (by omega)]; exact hH) (by omega) (by rw [sM_3, am_up_s R]) (by have := hN h; omega) (fun k hk hbk => ridUp (by omega) (hrd h (by omega) k hk (by rw [sM_n (by omega) (by omega) (by omega) (by omega)] at hbk; exact hbk)))) lk_X6_79 mc_X6_stands dX6_seek_180 t0 (by decide) rfl rfl (Nat.le_of_ble_eq_true rfl) (fun Q2 => ?_)
                  rw [sM_u8 (by omega), show stS (sM I b o Q (va_up R h (nI (N h + 1))) (SR H S0 fs) (oR r0 (nI (t + 1)) (nI fs.length))) o b l H rid h (N h + 1) = TS I o b l H rid (upN N h (N h + 1)) h from by have := stT (I := I) (Q := Q) (R := (va_up R h (nI (N h + 1)))) (S := SR H S0 fs) (r := oR r0 (nI (t + 1)) (nI fs.length)) (rid := rid) (N := (upN N h (N h + 1))) hbl hlo (by omega : h < H) hH8 (up_row h (N h + 1) hR); rwa [upN_s] at this, hT]
                  refine r_if_eq (tgt := 214) dX6_seek_183 (by decide) (fun hz => absurd hz (show ¬ _ from (by decide))) (fun _ => ?_)
                  refine r_iload_n dX6_seek_186 rfl ?_
                  refine r_iload_n dX6_seek_187 rfl ?_
                  refine r_icmp_ge (tgt := 197) dX6_seek_188 (by decide) (fun hz => absurd hz (show ¬ _ from (by rw [nI_leI (by omega) (by omega)]; omega))) (fun _ => ?_)
                  refine r_iinc (v := nI (h + 1)) dX6_seek_191 rfl (nI_inc h) ?_
                  refine r_goto (tgt := 214) dX6_seek_194 (by decide) ?_
                  refine r_iinc (v := nI (s + 1)) dX6_seek_214 rfl (nI_inc s) ?_
                  refine r_goto (tgt := 73) dX6_seek_217 (by decide) ?_
                  exact ih (hh := h + 2) hs (by omega) (up_row h (N h + 1) hR) (by omega) (upN_le hN (by omega)) (by omega) hF
                · rw [if_neg hl] at hs
                  by_cases hE2 : fs.length + 1 = E
                  · rw [if_pos hE2] at hs
                    refine r_aload_n dX6_seek_147 rfl ?_
                    refine r_getI dX6_seek_148 fl_X6_43 rfl t0 ?_
                    rw [sM_o, oR9]
                    refine r_sipush (v := nI 20000) dX6_seek_151 (by decide) ?_
                    refine r_icmp_ne (tgt := 168) dX6_seek_154 (by decide) (fun _ => ?_) (fun hz => absurd hz (show ¬ _ from (by rw [nI_eq (by omega) (by omega)]; omega)))
                    refine r_aload_n dX6_seek_168 rfl ?_
                    refine r_dup dX6_seek_169 rfl ?_
                    refine r_getI dX6_seek_170 fl_X6_43 rfl t0 ?_
                    rw [sM_o, oR9]
                    refine r_iconst (v := nI 1) dX6_seek_173 (by decide) ?_
                    refine r_iadd dX6_seek_174 ?_
                    rw [nI_add t 1]
                    refine r_putI dX6_seek_175 fl_X6_43 rfl rfl t0 ?_
                    rw [sM_o, sM_uo, oR_9]
                    refine r_aload_n dX6_seek_178 rfl ?_
                    refine r_iload_n dX6_seek_179 rfl ?_
                    refine r_virtS (c_X6_stands o b l H h (N h + 1) rid hS0 hL0 hQ0 hpb hpl hbl hlo hH8 (by rw [sM_n (by omega) (by omega) (by omega) (by omega)]; exact hH) (by omega) (by rw [sM_3, am_up_s R]) (by have := hN h; omega) (fun k hk hbk => ridUp (by omega) (hrd h (by omega) k hk (by rw [sM_n (by omega) (by omega) (by omega) (by omega)] at hbk; exact hbk)))) lk_X6_79 mc_X6_stands dX6_seek_180 t0 (by decide) rfl rfl (Nat.le_of_ble_eq_true rfl) (fun Q2 => ?_)
                    rw [sM_u8 (by omega), show stS (sM I b o Q (va_up R h (nI (N h + 1))) (SR H S0 fs) (oR r0 (nI (t + 1)) (nI fs.length))) o b l H rid h (N h + 1) = TS I o b l H rid (upN N h (N h + 1)) h from by have := stT (I := I) (Q := Q) (R := (va_up R h (nI (N h + 1)))) (S := SR H S0 fs) (r := oR r0 (nI (t + 1)) (nI fs.length)) (rid := rid) (N := (upN N h (N h + 1))) hbl hlo (by omega : h < H) hH8 (up_row h (N h + 1) hR); rwa [upN_s] at this, hT]
                    refine r_if_eq (tgt := 214) dX6_seek_183 (by decide) (fun hz => absurd hz (show ¬ _ from (by decide))) (fun _ => ?_)
                    refine r_iload_n dX6_seek_186 rfl ?_
                    refine r_iload_n dX6_seek_187 rfl ?_
                    refine r_icmp_ge (tgt := 197) dX6_seek_188 (by decide) (fun _ => ?_) (fun hz => absurd (show _ from (by rw [nI_leI (by omega) (by omega)]; omega)) hz)
                    refine r_aload_n dX6_seek_197 rfl ?_
                    refine r_virtV (c_X6_keep o b H fs.length hQ0 s0 hpb (by omega) hH8 (by rw [sM_n (by omega) (by omega) (by omega) (by omega)]; exact hH) (by rw [sM_o, oR10]) (by omega)) lk_X6_72 mc_X6_keep dX6_seek_198 t0 (by decide) rfl rfl (Nat.le_of_ble_eq_true rfl) ?_
                    rw [sM_3, sM_5, sM_o, sM_u5, sM_uo, oR_10, JR_step (N := (upN N h (N h + 1))) (fun j hj => up_row h (N h + 1) hR j (by omega)), show snR (va_up R h (nI (N h + 1))) (SR H S0 fs) H = SR H S0 ((upN N h (N h + 1)) :: fs) from snR_congr (fun j hj => up_row h (N h + 1) hR j (by omega))]
                    refine r_aload_n dX6_seek_201 rfl ?_
                    refine r_getI dX6_seek_202 fl_X6_46 rfl t0 ?_
                    rw [sM_o, oR10]
                    refine r_iload_n dX6_seek_205 rfl ?_
                    refine r_icmp_ne (tgt := 214) dX6_seek_206 (by decide) (fun hz => absurd (show _ from (by rw [hE2])) hz) (fun _ => ?_)
                    refine r_aload_n dX6_seek_209 rfl ?_
                    refine r_getI dX6_seek_210 fl_X6_46 rfl t0 ?_
                    rw [sM_o, oR10]
                    refine r_iret rfl dX6_seek_213 ?_
                    cases hs
                    exact ⟨Q2, (va_up R h (nI (N h + 1))), rfl, rfl, rfl, rfl, rfl, rfl⟩
                  · rw [if_neg hE2] at hs
                    refine r_aload_n dX6_seek_147 rfl ?_
                    refine r_getI dX6_seek_148 fl_X6_43 rfl t0 ?_
                    rw [sM_o, oR9]
                    refine r_sipush (v := nI 20000) dX6_seek_151 (by decide) ?_
                    refine r_icmp_ne (tgt := 168) dX6_seek_154 (by decide) (fun _ => ?_) (fun hz => absurd hz (show ¬ _ from (by rw [nI_eq (by omega) (by omega)]; omega)))
                    refine r_aload_n dX6_seek_168 rfl ?_
                    refine r_dup dX6_seek_169 rfl ?_
                    refine r_getI dX6_seek_170 fl_X6_43 rfl t0 ?_
                    rw [sM_o, oR9]
                    refine r_iconst (v := nI 1) dX6_seek_173 (by decide) ?_
                    refine r_iadd dX6_seek_174 ?_
                    rw [nI_add t 1]
                    refine r_putI dX6_seek_175 fl_X6_43 rfl rfl t0 ?_
                    rw [sM_o, sM_uo, oR_9]
                    refine r_aload_n dX6_seek_178 rfl ?_
                    refine r_iload_n dX6_seek_179 rfl ?_
                    refine r_virtS (c_X6_stands o b l H h (N h + 1) rid hS0 hL0 hQ0 hpb hpl hbl hlo hH8 (by rw [sM_n (by omega) (by omega) (by omega) (by omega)]; exact hH) (by omega) (by rw [sM_3, am_up_s R]) (by have := hN h; omega) (fun k hk hbk => ridUp (by omega) (hrd h (by omega) k hk (by rw [sM_n (by omega) (by omega) (by omega) (by omega)] at hbk; exact hbk)))) lk_X6_79 mc_X6_stands dX6_seek_180 t0 (by decide) rfl rfl (Nat.le_of_ble_eq_true rfl) (fun Q2 => ?_)
                    rw [sM_u8 (by omega), show stS (sM I b o Q (va_up R h (nI (N h + 1))) (SR H S0 fs) (oR r0 (nI (t + 1)) (nI fs.length))) o b l H rid h (N h + 1) = TS I o b l H rid (upN N h (N h + 1)) h from by have := stT (I := I) (Q := Q) (R := (va_up R h (nI (N h + 1)))) (S := SR H S0 fs) (r := oR r0 (nI (t + 1)) (nI fs.length)) (rid := rid) (N := (upN N h (N h + 1))) hbl hlo (by omega : h < H) hH8 (up_row h (N h + 1) hR); rwa [upN_s] at this, hT]
                    refine r_if_eq (tgt := 214) dX6_seek_183 (by decide) (fun hz => absurd hz (show ¬ _ from (by decide))) (fun _ => ?_)
                    refine r_iload_n dX6_seek_186 rfl ?_
                    refine r_iload_n dX6_seek_187 rfl ?_
                    refine r_icmp_ge (tgt := 197) dX6_seek_188 (by decide) (fun _ => ?_) (fun hz => absurd (show _ from (by rw [nI_leI (by omega) (by omega)]; omega)) hz)
                    refine r_aload_n dX6_seek_197 rfl ?_
                    refine r_virtV (c_X6_keep o b H fs.length hQ0 s0 hpb (by omega) hH8 (by rw [sM_n (by omega) (by omega) (by omega) (by omega)]; exact hH) (by rw [sM_o, oR10]) (by omega)) lk_X6_72 mc_X6_keep dX6_seek_198 t0 (by decide) rfl rfl (Nat.le_of_ble_eq_true rfl) ?_
                    rw [sM_3, sM_5, sM_o, sM_u5, sM_uo, oR_10, JR_step (N := (upN N h (N h + 1))) (fun j hj => up_row h (N h + 1) hR j (by omega)), show snR (va_up R h (nI (N h + 1))) (SR H S0 fs) H = SR H S0 ((upN N h (N h + 1)) :: fs) from snR_congr (fun j hj => up_row h (N h + 1) hR j (by omega))]
                    refine r_aload_n dX6_seek_201 rfl ?_
                    refine r_getI dX6_seek_202 fl_X6_46 rfl t0 ?_
                    rw [sM_o, oR10]
                    refine r_iload_n dX6_seek_205 rfl ?_
                    refine r_icmp_ne (tgt := 214) dX6_seek_206 (by decide) (fun _ => ?_) (fun hz => absurd hz (show ¬ _ from (by rw [nI_eq (by omega) (by omega)]; omega)))
                    refine r_iinc (v := nI (s + 1)) dX6_seek_214 rfl (nI_inc s) ?_
                    refine r_goto (tgt := 73) dX6_seek_217 (by decide) ?_
                    exact ih (fs := (upN N h (N h + 1)) :: fs) hs (by omega) (up_row h (N h + 1) hR) (by omega) (upN_le hN (by omega)) (by omega) (by simp; omega)
          by_cases hb1 : nI h = r0 4
          · have hb2 : ¬ nI (N h + 1) = r0 5 := fun q => hb ⟨hb1, q⟩
            refine r_iload dX6_seek_73 rfl ?_
            refine r_ldc dX6_seek_75 ic_X6_75 ?_
            refine r_icmp_ge (tgt := 220) dX6_seek_77 (by decide) (fun hz => absurd hz (show ¬ _ from (by rw [show (100000 : Int32) = nI 100000 from rfl, nI_leI (by omega) (by omega)]; omega))) (fun _ => ?_)
            refine r_iload_n dX6_seek_80 rfl ?_
            refine r_if_lt (tgt := 220) dX6_seek_81 (by decide) (fun hz => absurd hz (show ¬ _ from (z_nlt (by omega)))) (fun _ => ?_)
            refine r_aload_n dX6_seek_84 rfl ?_
            refine r_getR dX6_seek_85 fl_X6_33 rfl (by assumption) (by assumption) ?_
            refine r_iload_n dX6_seek_88 rfl ?_
            refine r_iald dX6_seek_89 t3 (nI_in8 8 (by omega) (by decide)) (nI_clamp (by omega)) ?_
            rw [sM_3, hR h (by omega)]
            refine r_aload_n dX6_seek_90 rfl ?_
            refine r_getR dX6_seek_91 fl_X6_9 rfl (by assumption) (by assumption) ?_
            refine r_getI dX6_seek_94 fl_X6_76 rfl s0 ?_
            rw [sM_n (by omega) (by omega) (by omega) (by omega), hM]
            refine r_icmp_lt (tgt := 113) dX6_seek_97 (by decide) (fun _ => ?_) (fun hz => absurd (show _ from (by rw [nI_ltI (by omega) (by omega)]; omega)) hz)
            refine r_aload_n dX6_seek_113 rfl ?_
            refine r_getR dX6_seek_114 fl_X6_33 rfl (by assumption) (by assumption) ?_
            refine r_iload_n dX6_seek_117 rfl ?_
            refine r_dup2 dX6_seek_118 rfl rfl ?_
            refine r_iald dX6_seek_119 t3 (nI_in8 8 (by omega) (by decide)) (nI_clamp (by omega)) ?_
            rw [sM_3, hR h (by omega)]
            refine r_iconst (v := nI 1) dX6_seek_120 (by decide) ?_
            refine r_iadd dX6_seek_121 ?_
            rw [nI_add (N h) 1]
            refine r_iast dX6_seek_122 t3 (nI_in8 8 (by omega) (by decide)) (nI_clamp (by omega)) ?_
            rw [sM_3, sM_u3]
            refine r_iload_n dX6_seek_123 rfl ?_
            refine r_aload_n dX6_seek_124 rfl ?_
            refine r_getI dX6_seek_125 fl_X6_26 rfl t0 ?_
            rw [sM_o, oR4]
            refine r_icmp_ne (tgt := 147) dX6_seek_128 (by decide) (fun hz => absurd (show _ from hb1) hz) (fun _ => ?_)
            refine r_aload_n dX6_seek_131 rfl ?_
            refine r_getR dX6_seek_132 fl_X6_33 rfl (by assumption) (by assumption) ?_
            refine r_iload_n dX6_seek_135 rfl ?_
            refine r_iald dX6_seek_136 t3 (nI_in8 8 (by omega) (by decide)) (nI_clamp (by omega)) ?_
            rw [sM_3, am_up_s R]
            refine r_aload_n dX6_seek_137 rfl ?_
            refine r_getI dX6_seek_138 fl_X6_30 rfl t0 ?_
            rw [sM_o, oR5]
            refine r_icmp_ne (tgt := 147) dX6_seek_141 (by decide) (fun _ => ?_) (fun hz => absurd hz (show ¬ _ from hb2))
            exact h147
          · skip
            refine r_iload dX6_seek_73 rfl ?_
            refine r_ldc dX6_seek_75 ic_X6_75 ?_
            refine r_icmp_ge (tgt := 220) dX6_seek_77 (by decide) (fun hz => absurd hz (show ¬ _ from (by rw [show (100000 : Int32) = nI 100000 from rfl, nI_leI (by omega) (by omega)]; omega))) (fun _ => ?_)
            refine r_iload_n dX6_seek_80 rfl ?_
            refine r_if_lt (tgt := 220) dX6_seek_81 (by decide) (fun hz => absurd hz (show ¬ _ from (z_nlt (by omega)))) (fun _ => ?_)
            refine r_aload_n dX6_seek_84 rfl ?_
            refine r_getR dX6_seek_85 fl_X6_33 rfl (by assumption) (by assumption) ?_
            refine r_iload_n dX6_seek_88 rfl ?_
            refine r_iald dX6_seek_89 t3 (nI_in8 8 (by omega) (by decide)) (nI_clamp (by omega)) ?_
            rw [sM_3, hR h (by omega)]
            refine r_aload_n dX6_seek_90 rfl ?_
            refine r_getR dX6_seek_91 fl_X6_9 rfl (by assumption) (by assumption) ?_
            refine r_getI dX6_seek_94 fl_X6_76 rfl s0 ?_
            rw [sM_n (by omega) (by omega) (by omega) (by omega), hM]
            refine r_icmp_lt (tgt := 113) dX6_seek_97 (by decide) (fun _ => ?_) (fun hz => absurd (show _ from (by rw [nI_ltI (by omega) (by omega)]; omega)) hz)
            refine r_aload_n dX6_seek_113 rfl ?_
            refine r_getR dX6_seek_114 fl_X6_33 rfl (by assumption) (by assumption) ?_
            refine r_iload_n dX6_seek_117 rfl ?_
            refine r_dup2 dX6_seek_118 rfl rfl ?_
            refine r_iald dX6_seek_119 t3 (nI_in8 8 (by omega) (by decide)) (nI_clamp (by omega)) ?_
            rw [sM_3, hR h (by omega)]
            refine r_iconst (v := nI 1) dX6_seek_120 (by decide) ?_
            refine r_iadd dX6_seek_121 ?_
            rw [nI_add (N h) 1]
            refine r_iast dX6_seek_122 t3 (nI_in8 8 (by omega) (by decide)) (nI_clamp (by omega)) ?_
            rw [sM_3, sM_u3]
            refine r_iload_n dX6_seek_123 rfl ?_
            refine r_aload_n dX6_seek_124 rfl ?_
            refine r_getI dX6_seek_125 fl_X6_26 rfl t0 ?_
            rw [sM_o, oR4]
            refine r_icmp_ne (tgt := 147) dX6_seek_128 (by decide) (fun _ => ?_) (fun hz => absurd hz (show ¬ _ from hb1))
            exact h147

def skTop (T : (Nat → Nat) → Nat → Bool) (bar : Nat → Nat → Bool) (H M E : Nat) : Option (Nat × List (Nat → Nat) × Bool) := if H = 0 then some (0, [fun _ => 0], false) else sk T bar H M E 100000 1 (fun _ => 0) 0 []
set_option maxHeartbeats 4000000 in
set_option maxRecDepth 100000 in
theorem c_X6_seek (o b l H M E : Nat) (rid : Nat → List Nat) (res : Nat × List (Nat → Nat) × Bool) {n : Nat} {kd : mK} {I : mI} {J : mJ} {P : mP} (hS : kS kd P b) (hL : kL kd P l) (hQ : kQ kd P o) (hpb : P o 0 = some b) (hpl : P o 1 = some l) (hbl : b + 9 < l) (hlo : l + 5 < o) (hH8 : H ≤ 8) (hH : I b 0 = nI H) (hM : I b 1 = nI M) (hM20 : M ≤ 20) (hE : E ≤ 1001) (hrd : ∀ h, h < H → ∀ k, k < 8 → bt (I (o + 1) h) k = true → ridOk I b H rid k) (hE1 : 1 ≤ E) (hsk : skTop (TS I o b l H rid) (barS (I o 4) (I o 5)) H M E = some res) : Ct yX6_seek cX6_seek 5 (some .int) 6 0 0 [.ref o, .int (nI E)] n kd I J P (skP b o H (fun j => if j < 8 then nI 0 else I (o + 5) j) (I o) (J (o + 4)) res n kd I J P) := by
  have hS0 := hS
  obtain ⟨s0, s1, s2, s3, s4, s5, s6, s7, s8, s9, p4, p5, p7, p8, p9, p11, p12, p13, p14⟩ := hS
  have hL0 := hL
  obtain ⟨l0, l1, l2, l3, l4, l5, q0, q1, q3, q5, q6⟩ := hL
  have hQ0 := hQ
  obtain ⟨t0, t1, t2, t3, t4, t5, u2, u3, u6, u7, u8⟩ := hQ
  have hmem : va_up (va_up (va_up I o (oR (I o) (nI 0) (nI 0))) (o + 3) (fun j => if j < 8 then nI 0 else I (o + 3) j)) (o + 5) (fun j => if j < 8 then nI 0 else I (o + 5) j) = (sM I b o (I (b + 8)) (fun j => if j < 8 then nI 0 else I (o + 3) j) (fun j => if j < 8 then nI 0 else I (o + 5) j) (oR (I o) (nI 0) (nI 0))) := by
    unfold sM
    rw [am_up_id, am_up_cm I _ _ (by omega : o ≠ o + 3), am_up_cm _ _ _ (by omega : o ≠ o + 5)]
  refine ct_of 3 (by decide +kernel) (Nat.le_of_ble_eq_true rfl) rfl ?_
  by_cases h0 : H = 0
  · skip
    refine r_aload_n dX6_seek_0 rfl ?_
    refine r_iconst (v := nI 0) dX6_seek_1 (by decide) ?_
    refine r_putI dX6_seek_2 fl_X6_43 rfl rfl (by assumption) ?_
    refine r_aload_n dX6_seek_5 rfl ?_
    refine r_iconst (v := nI 0) dX6_seek_6 (by decide) ?_
    refine r_putI dX6_seek_7 fl_X6_46 rfl rfl t0 ?_
    rw [am_up_s I, am_up_up I, show va_up (va_up (I o) 9 (nI 0)) 10 (nI 0) = oR (I o) (nI 0) (nI 0) from rfl]
    refine r_aload_n dX6_seek_10 rfl ?_
    refine r_getR dX6_seek_11 fl_X6_33 rfl (by assumption) (by assumption) ?_
    refine r_iconst (v := nI 0) dX6_seek_14 (by decide) ?_
    refine r_statV (c_J7_fill_53178 (o + 3) 8 (nI 0) t3 (by decide)) lk_X6_49 mc_J7_fill_53178 dX6_seek_15 (by decide) rfl rfl (Nat.le_of_ble_eq_true rfl) ?_
    rw [am_up_n I _ (by omega : o + 3 ≠ o)]
    refine r_aload_n dX6_seek_18 rfl ?_
    refine r_getR dX6_seek_19 fl_X6_40 rfl (by assumption) (by assumption) ?_
    refine r_iconst (v := nI 0) dX6_seek_22 (by decide) ?_
    refine r_statV (c_J7_fill_53178 (o + 5) 8 (nI 0) t5 (by decide)) lk_X6_49 mc_J7_fill_53178 dX6_seek_23 (by decide) rfl rfl (Nat.le_of_ble_eq_true rfl) ?_
    rw [am_up_n _ _ (by omega : o + 5 ≠ o + 3), am_up_n I _ (by omega : o + 5 ≠ o), hmem]
    refine r_aload_n dX6_seek_26 rfl ?_
    refine r_getR dX6_seek_27 fl_X6_9 rfl (by assumption) (by assumption) ?_
    refine r_ifnull dX6_seek_30 ?_
    refine r_aload_n dX6_seek_33 rfl ?_
    refine r_getR dX6_seek_34 fl_X6_15 rfl (by assumption) (by assumption) ?_
    refine r_nonnull (tgt := 45) dX6_seek_37 (by decide) ?_
    refine r_aload_n dX6_seek_45 rfl ?_
    refine r_getR dX6_seek_46 fl_X6_9 rfl (by assumption) (by assumption) ?_
    refine r_getI dX6_seek_49 fl_X6_55 rfl s0 ?_
    rw [sM_n (by omega) (by omega) (by omega) (by omega), hH]
    refine r_iconst (v := nI 1) dX6_seek_52 (by decide) ?_
    refine r_isub dX6_seek_53 ?_
    rw [h0, show nI 0 - nI 1 = (-1 : Int32) from by decide]
    refine r_istore_n dX6_seek_54 (by decide) ?_
    refine r_iload_n dX6_seek_55 rfl ?_
    refine r_if_ge (tgt := 68) dX6_seek_56 (by decide) (fun hz => absurd hz (show ¬ _ from (by decide))) (fun _ => ?_)
    refine r_aload_n dX6_seek_59 rfl ?_
    refine r_virtV (c_X6_keep o b 0 0 hQ0 s0 hpb (by omega) (by omega) (by rw [sM_n (by omega) (by omega) (by omega) (by omega), hH, h0]) (by rw [sM_o, oR10]) (by omega)) lk_X6_72 mc_X6_keep dX6_seek_60 t0 (by decide) rfl rfl (Nat.le_of_ble_eq_true rfl) ?_
    rw [sM_3, sM_5, sM_o, sM_u5, sM_uo, oR_10]
    refine r_aload_n dX6_seek_63 rfl ?_
    refine r_getI dX6_seek_64 fl_X6_46 rfl t0 ?_
    rw [sM_o, oR10]
    refine r_iret rfl dX6_seek_67 ?_
    have hsk2 := hsk
    rw [skTop, if_pos h0] at hsk2
    cases hsk2
    subst h0
    exact ⟨I (b + 8), (fun j => if j < 8 then nI 0 else I (o + 3) j), rfl, rfl, rfl, rfl, rfl, rfl⟩
  · skip
    refine r_aload_n dX6_seek_0 rfl ?_
    refine r_iconst (v := nI 0) dX6_seek_1 (by decide) ?_
    refine r_putI dX6_seek_2 fl_X6_43 rfl rfl (by assumption) ?_
    refine r_aload_n dX6_seek_5 rfl ?_
    refine r_iconst (v := nI 0) dX6_seek_6 (by decide) ?_
    refine r_putI dX6_seek_7 fl_X6_46 rfl rfl t0 ?_
    rw [am_up_s I, am_up_up I, show va_up (va_up (I o) 9 (nI 0)) 10 (nI 0) = oR (I o) (nI 0) (nI 0) from rfl]
    refine r_aload_n dX6_seek_10 rfl ?_
    refine r_getR dX6_seek_11 fl_X6_33 rfl (by assumption) (by assumption) ?_
    refine r_iconst (v := nI 0) dX6_seek_14 (by decide) ?_
    refine r_statV (c_J7_fill_53178 (o + 3) 8 (nI 0) t3 (by decide)) lk_X6_49 mc_J7_fill_53178 dX6_seek_15 (by decide) rfl rfl (Nat.le_of_ble_eq_true rfl) ?_
    rw [am_up_n I _ (by omega : o + 3 ≠ o)]
    refine r_aload_n dX6_seek_18 rfl ?_
    refine r_getR dX6_seek_19 fl_X6_40 rfl (by assumption) (by assumption) ?_
    refine r_iconst (v := nI 0) dX6_seek_22 (by decide) ?_
    refine r_statV (c_J7_fill_53178 (o + 5) 8 (nI 0) t5 (by decide)) lk_X6_49 mc_J7_fill_53178 dX6_seek_23 (by decide) rfl rfl (Nat.le_of_ble_eq_true rfl) ?_
    rw [am_up_n _ _ (by omega : o + 5 ≠ o + 3), am_up_n I _ (by omega : o + 5 ≠ o), hmem]
    refine r_aload_n dX6_seek_26 rfl ?_
    refine r_getR dX6_seek_27 fl_X6_9 rfl (by assumption) (by assumption) ?_
    refine r_ifnull dX6_seek_30 ?_
    refine r_aload_n dX6_seek_33 rfl ?_
    refine r_getR dX6_seek_34 fl_X6_15 rfl (by assumption) (by assumption) ?_
    refine r_nonnull (tgt := 45) dX6_seek_37 (by decide) ?_
    refine r_aload_n dX6_seek_45 rfl ?_
    refine r_getR dX6_seek_46 fl_X6_9 rfl (by assumption) (by assumption) ?_
    refine r_getI dX6_seek_49 fl_X6_55 rfl s0 ?_
    rw [sM_n (by omega) (by omega) (by omega) (by omega), hH]
    refine r_iconst (v := nI 1) dX6_seek_52 (by decide) ?_
    refine r_isub dX6_seek_53 ?_
    rw [pk_sub (by omega : 1 ≤ H)]
    refine r_istore_n dX6_seek_54 (by decide) ?_
    refine r_iload_n dX6_seek_55 rfl ?_
    refine r_if_ge (tgt := 68) dX6_seek_56 (by decide) (fun _ => ?_) (fun hz => absurd (show _ from (z_ge (by omega))) hz)
    refine r_iconst (v := nI 0) dX6_seek_68 (by decide) ?_
    refine r_istore_n dX6_seek_69 (by decide) ?_
    refine r_iconst (v := nI 0) dX6_seek_70 (by decide) ?_
    refine r_istore dX6_seek_71 (by decide) ?_
    have hsk2 := hsk
    rw [skTop, if_neg h0] at hsk2
    have hw := w_X6_seek (n := n) (kd := kd) (I := I) (J := J) (P := P) o b l H M E rid (fun j => if j < 8 then nI 0 else I (o + 5) j) (I o) (J (o + 4)) hS0 hL0 hQ0 hpb hpl hbl hlo hH8 (by omega) hH hM hM20 hE hrd 100000 (s := 0) (R := (fun j => if j < 8 then nI 0 else I (o + 3) j)) (Q := I (b + 8)) hsk2 (by omega) (fun j hj => by simp [hj]) (by omega) (fun j => Nat.zero_le M) (by omega) hE1
    rw [show va_up J (o + 4) (JR H (J (o + 4)) []) = J from am_up_id J (o + 4)] at hw
    exact hw


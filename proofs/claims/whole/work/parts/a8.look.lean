/-! LOOK AND POST, on any state -/
theorem mm_X9_246 : Cond.methodLink RX9 246 Lib.Math.abs.name ∈ gw := (gt5 57 rfl rfl)
theorem mm_X9_251 : Cond.methodLink RX9 251 Lib.Math.min.name ∈ gw := (gt5 60 rfl rfl)
theorem mm_X8_62 : Cond.methodLink RX8 62 Lib.Math.abs.name ∈ gw := (gt5 194 rfl rfl)
theorem mm_X8_54 : Cond.methodLink RX8 54 Lib.Math.min.name ∈ gw := (gt5 195 rfl rfl)
theorem mm_X7_115 : Cond.methodLink RX7 115 Lib.Math.max.name ∈ gw := (gt5 231 rfl rfl)
theorem mm_X9_354 : Cond.methodLink RX9 354 Lib.Math.max.name ∈ gw := (gt6 46 rfl rfl)
def lkMx (fs : List (Nat → Nat)) (h : Nat) : Nat → Nat
  | 0 => 0
  | k + 1 => max (lkMx fs h k) (cntN fs h (k + 1))
def lkSq (fs : List (Nat → Nat)) (h : Nat) : Nat → Nat
  | 0 => 0
  | k + 1 => lkSq fs h k + cntN fs h (k + 1) * cntN fs h (k + 1)
theorem lkMx_le {fs : List (Nat → Nat)} {h : Nat} (hl : fs.length ≤ 1000) : ∀ k, lkMx fs h k ≤ 1000
  | 0 => Nat.zero_le _
  | k + 1 => by
    show max _ _ ≤ 1000
    exact Nat.max_le.mpr ⟨lkMx_le hl k, Nat.le_trans (cntN_le fs h (k + 1)) hl⟩
theorem lkSq_le {fs : List (Nat → Nat)} {h : Nat} (hl : fs.length ≤ 1000) : ∀ k, lkSq fs h k ≤ 1000000 * k
  | 0 => Nat.zero_le _
  | k + 1 => by
    show lkSq fs h k + _ ≤ _
    have h1 := lkSq_le (h := h) hl k
    have h2 := Nat.le_trans (cntN_le fs h (k + 1)) hl
    have h3 : cntN fs h (k + 1) * cntN fs h (k + 1) ≤ 1000 * 1000 := Nat.mul_le_mul h2 h2
    omega
theorem cntN_pos {N : Nat → Nat} {fs : List (Nat → Nat)} {h : Nat} : 1 ≤ cntN (N :: fs) h (N h) := by
  show 1 ≤ cntN fs h (N h) + if N h = N h then 1 else 0
  rw [if_pos rfl]
  omega
theorem lkSq_ge {fs : List (Nat → Nat)} {h v : Nat} (h1 : 1 ≤ v) (hc : 1 ≤ cntN fs h v) : ∀ k, v ≤ k → 1 ≤ lkSq fs h k
  | 0, hk => by omega
  | k + 1, hk => by
    show 1 ≤ lkSq fs h k + _
    by_cases q : v = k + 1
    · have := Nat.mul_le_mul hc hc
      rw [← q]
      omega
    · have := lkSq_ge h1 hc k (by omega)
      omega
theorem cntN_nil {h v : Nat} : cntN [] h v = 0 := rfl
theorem lkSq_nil {h : Nat} : ∀ k, lkSq [] h k = 0
  | 0 => rfl
  | k + 1 => by show lkSq [] h k + 0 * 0 = 0; rw [lkSq_nil k]
theorem lkSq_0 {fs : List (Nat → Nat)} {H M h : Nat} (hr : fRng H M fs) (hh : h < H) : lkSq fs h M = 0 ↔ fs.length = 0 := by
  cases fs with
  | nil => simp [lkSq_nil]
  | cons N fs =>
    have h1 := hr N List.mem_cons_self h hh
    have h2 := lkSq_ge h1.1 (cntN_pos (N := N) (fs := fs)) M h1.2
    simp
    omega
def lookA (fs : List (Nat → Nat)) (h M w : Nat) : Nat := if w = 0 then lkMx fs h M else if fs.length = 0 then w - 1 else (if w = 1 then lkSq fs h M else fs.length) / Nat.gcd (lkSq fs h M) fs.length
theorem gcd_step {a b : Nat} : Nat.gcd b (a % b) = Nat.gcd a b := by
  rw [Nat.gcd_comm b (a % b), Nat.gcd_comm a b]
  exact (Nat.gcd_rec b a).symm
theorem mod_half {a b : Nat} (hb : 0 < b) (h : b < a) : 2 * (a % b) < a := by
  have h1 := Nat.mod_lt a hb
  have h2 := Nat.div_add_mod a b
  have h3 : 1 ≤ a / b := (Nat.one_le_div_iff hb).mpr (Nat.le_of_lt h)
  have h4 : b * 1 ≤ b * (a / b) := Nat.mul_le_mul_left b h3
  omega
def eIv (c a b : Nat) : Prop := ∃ k, (b < 2 ^ k ∧ 2 * k + 1 ≤ c) ∨ (b < a ∧ a < 2 ^ k ∧ 2 * k ≤ c)
theorem eIv.step {c a b : Nat} (hb : 0 < b) (h : eIv (c + 1) a b) : eIv c b (a % b) := by
  obtain ⟨k, ⟨h1, h2⟩ | ⟨h1, h2, h3⟩⟩ := h
  · exact ⟨k, Or.inr ⟨Nat.mod_lt _ hb, h1, by omega⟩⟩
  · cases k with
    | zero => simp at h2; omega
    | succ k =>
      have := mod_half hb h1
      rw [Nat.pow_succ] at h2
      exact ⟨k, Or.inl ⟨by omega, by omega⟩⟩
theorem eIv.no {a b : Nat} (h : eIv 0 a b) : False := by
  obtain ⟨k, ⟨h1, h2⟩ | ⟨h1, h2, h3⟩⟩ := h
  · omega
  · rw [show k = 0 by omega] at h2
    omega
theorem dX9_commonDivisor_0 : decode cX9_commonDivisor 0 = .ok (.iload_n 0, 1) := by decide +kernel
theorem dX9_commonDivisor_1 : decode cX9_commonDivisor 1 = .ok (.istore_n 2, 1) := by decide +kernel
theorem dX9_commonDivisor_2 : decode cX9_commonDivisor 2 = .ok (.iload_n 1, 1) := by decide +kernel
theorem dX9_commonDivisor_3 : decode cX9_commonDivisor 3 = .ok (.istore_n 3, 1) := by decide +kernel
theorem dX9_commonDivisor_4 : decode cX9_commonDivisor 4 = .ok (.iconst 0, 1) := by decide +kernel
theorem dX9_commonDivisor_5 : decode cX9_commonDivisor 5 = .ok (.istore 4, 2) := by decide +kernel
theorem dX9_commonDivisor_7 : decode cX9_commonDivisor 7 = .ok (.iload 4, 2) := by decide +kernel
theorem dX9_commonDivisor_9 : decode cX9_commonDivisor 9 = .ok (.bipush 64, 2) := by decide +kernel
theorem dX9_commonDivisor_11 : decode cX9_commonDivisor 11 = .ok (.if_icmp .ge 23, 3) := by decide +kernel
theorem dX9_commonDivisor_14 : decode cX9_commonDivisor 14 = .ok (.iload_n 3, 1) := by decide +kernel
theorem dX9_commonDivisor_15 : decode cX9_commonDivisor 15 = .ok (.ifCond .le 19, 3) := by decide +kernel
theorem dX9_commonDivisor_18 : decode cX9_commonDivisor 18 = .ok (.iload_n 2, 1) := by decide +kernel
theorem dX9_commonDivisor_19 : decode cX9_commonDivisor 19 = .ok (.iload_n 3, 1) := by decide +kernel
theorem dX9_commonDivisor_20 : decode cX9_commonDivisor 20 = .ok (.irem, 1) := by decide +kernel
theorem dX9_commonDivisor_21 : decode cX9_commonDivisor 21 = .ok (.istore 5, 2) := by decide +kernel
theorem dX9_commonDivisor_23 : decode cX9_commonDivisor 23 = .ok (.iload_n 3, 1) := by decide +kernel
theorem dX9_commonDivisor_24 : decode cX9_commonDivisor 24 = .ok (.istore_n 2, 1) := by decide +kernel
theorem dX9_commonDivisor_25 : decode cX9_commonDivisor 25 = .ok (.iload 5, 2) := by decide +kernel
theorem dX9_commonDivisor_27 : decode cX9_commonDivisor 27 = .ok (.istore_n 3, 1) := by decide +kernel
theorem dX9_commonDivisor_28 : decode cX9_commonDivisor 28 = .ok (.iinc 4 1, 3) := by decide +kernel
theorem dX9_commonDivisor_31 : decode cX9_commonDivisor 31 = .ok (.goto (-24), 3) := by decide +kernel
theorem dX9_commonDivisor_34 : decode cX9_commonDivisor 34 = .ok (.iload_n 2, 1) := by decide +kernel
theorem dX9_commonDivisor_35 : decode cX9_commonDivisor 35 = .ok (.ireturn, 1) := by decide +kernel

set_option maxHeartbeats 4000000 in
set_option maxRecDepth 100000 in
theorem w_X9_commonDivisor (a0 b0 : Nat) {n : Nat} {kd : mK} {I : mI} {J : mJ} {P : mP} : ∀ (c i a b : Nat) (z5 : Option Value), i + c = 64 → eIv c a b → a < 2 ^ 31 → b < 2 ^ 31 → Nat.gcd a b = Nat.gcd a0 b0 → Ru yX9_commonDivisor.cls cX9_commonDivisor 6 (some .int) yX9_commonDivisor.name 2 (am_is (some (.int (nI (Nat.gcd a0 b0)))) n kd I J P) 0 0 7 [some (.int (nI a0)), some (.int (nI b0)), some (.int (nI a)), some (.int (nI b)), some (.int (nI i)), z5] [] n kd I J P := by
  intro c
  induction c with
  | zero =>
    intro i a b z5 hi hv ha hb hgc
    exact absurd hv (fun q => q.no)
  | succ c ih =>
    intro i a b z5 hi hv ha hb hgc
    by_cases q : b = 0
    · have hga : Nat.gcd a0 b0 = a := by rw [← hgc, q, Nat.gcd_zero_right]
      rw [hga]
      refine r_iload dX9_commonDivisor_7 rfl ?_
      refine r_bipush (v := nI 64) dX9_commonDivisor_9 (by decide) ?_
      refine r_icmp_ge (tgt := 34) dX9_commonDivisor_11 (by decide) (fun hz => absurd hz (show ¬ _ from (by rw [nI_leI (by omega) (by omega)]; omega))) (fun _ => ?_)
      refine r_iload_n dX9_commonDivisor_14 rfl ?_
      refine r_if_le (tgt := 34) dX9_commonDivisor_15 (by decide) (fun _ => ?_) (fun hz => absurd (show _ from (by rw [q]; decide)) hz)
      refine r_iload_n dX9_commonDivisor_34 rfl ?_
      refine r_iret rfl dX9_commonDivisor_35 ?_
      exact am_is.mk
    · skip
      refine r_iload dX9_commonDivisor_7 rfl ?_
      refine r_bipush (v := nI 64) dX9_commonDivisor_9 (by decide) ?_
      refine r_icmp_ge (tgt := 34) dX9_commonDivisor_11 (by decide) (fun hz => absurd hz (show ¬ _ from (by rw [nI_leI (by omega) (by omega)]; omega))) (fun _ => ?_)
      refine r_iload_n dX9_commonDivisor_14 rfl ?_
      refine r_if_le (tgt := 34) dX9_commonDivisor_15 (by decide) (fun hz => absurd hz (show ¬ _ from (nI_nle (by omega) hb))) (fun _ => ?_)
      refine r_iload_n dX9_commonDivisor_18 rfl ?_
      refine r_iload_n dX9_commonDivisor_19 rfl ?_
      refine r_irem dX9_commonDivisor_20 (nI_ne0 (by omega) hb) ?_
      rw [pk_rem ha (by omega) hb]
      refine r_istore dX9_commonDivisor_21 (by decide) ?_
      refine r_iload_n dX9_commonDivisor_23 rfl ?_
      refine r_istore_n dX9_commonDivisor_24 (by decide) ?_
      refine r_iload dX9_commonDivisor_25 rfl ?_
      refine r_istore_n dX9_commonDivisor_27 (by decide) ?_
      refine r_iinc (v := nI (i + 1)) dX9_commonDivisor_28 rfl (nI_inc i) ?_
      refine r_goto (tgt := 7) dX9_commonDivisor_31 (by decide) ?_
      exact ih (i + 1) b (a % b) _ (by omega) (hv.step (by omega)) hb (Nat.lt_trans (Nat.mod_lt _ (by omega)) hb) (by rw [gcd_step]; exact hgc)

set_option maxHeartbeats 4000000 in
set_option maxRecDepth 100000 in
theorem c_X9_commonDivisor (a0 b0 : Nat) {n : Nat} {kd : mK} {I : mI} {J : mJ} {P : mP} (ha : a0 < 2 ^ 31) (hb : b0 < 1024) : Ct yX9_commonDivisor cX9_commonDivisor 6 (some .int) 2 0 0 [.int (nI a0), .int (nI b0)] n kd I J P (am_is (some (.int (nI (Nat.gcd a0 b0)))) n kd I J P) := by
  refine ct_of 4 (by decide +kernel) (Nat.le_of_ble_eq_true rfl) rfl ?_
  refine r_iload_n dX9_commonDivisor_0 rfl ?_
  refine r_istore_n dX9_commonDivisor_1 (by decide) ?_
  refine r_iload_n dX9_commonDivisor_2 rfl ?_
  refine r_istore_n dX9_commonDivisor_3 (by decide) ?_
  refine r_iconst (v := nI 0) dX9_commonDivisor_4 (by decide) ?_
  refine r_istore dX9_commonDivisor_5 (by decide) ?_
  exact w_X9_commonDivisor a0 b0 64 0 a0 b0 _ rfl ⟨10, Or.inl ⟨hb, by decide⟩⟩ ha (by omega) rfl


set_option maxHeartbeats 4000000 in
set_option maxRecDepth 100000 in
theorem w_X9_look (o b h w M : Nat) (fs : List (Nat → Nat)) {post : am_Post} {n : Nat} {kd : mK} {I : mI} {J : mJ} {P : mP} (y0 : kd o = some (0, 9)) (r10 : P o 10 = some (o + 41)) (r4 : P o 4 = some b) (hQ1 : kQ kd P (o + 41)) (hb0 : kd b = some (0, 7)) (hMo1 : I b 1 = nI M) (hM20 : M ≤ 20) (f10 : I (o + 41) 10 = nI fs.length) (hl : fs.length ≤ 1000) (hcw : ∀ v, v ≤ 20 → cwR (J (o + 45)) (nI h) (nI v) fs.length = cntN fs h v) (hE : ∀ z6, Ru yX9_look.cls cX9_look 7 (some .int) yX9_look.name 9 (post) 1 6 85 [some (.ref o), some (.int (nI h)), some (.int (nI w)), some (.int (nI (lkMx fs h M))), some (.int (nI (lkSq fs h M))), some (.int (nI (M + 1))), z6] [] n kd I J P) : ∀ (c v : Nat) (z6 : Option Value), v + c = M → Ru yX9_look.cls cX9_look 7 (some .int) yX9_look.name 9 (post) 1 6 38 [some (.ref o), some (.int (nI h)), some (.int (nI w)), some (.int (nI (lkMx fs h v))), some (.int (nI (lkSq fs h v))), some (.int (nI (v + 1))), z6] [] n kd I J P
  | 0, v, z6, hv => by
    rw [show v = M by omega]
    refine r_iload dX9_look_38 rfl ?_
    refine r_aload_n dX9_look_40 rfl ?_
    refine r_getR dX9_look_41 fl_X9_27 rfl y0 r4 ?_
    refine r_getI dX9_look_44 fl_X9_127 rfl hb0 ?_
    rw [hMo1]
    refine r_icmp_gt (tgt := 85) dX9_look_47 (by decide) (fun _ => ?_) (fun hz => absurd (show _ from (by rw [nI_ltI (by omega) (by omega)]; omega)) hz)
    exact hE _
  | c + 1, v, z6, hv => by
    have g1 := lkMx_le (h := h) hl v
    have g2 := Nat.le_trans (cntN_le fs h (v + 1)) hl
    refine r_iload dX9_look_38 rfl ?_
    refine r_aload_n dX9_look_40 rfl ?_
    refine r_getR dX9_look_41 fl_X9_27 rfl y0 r4 ?_
    refine r_getI dX9_look_44 fl_X9_127 rfl hb0 ?_
    rw [hMo1]
    refine r_icmp_gt (tgt := 85) dX9_look_47 (by decide) (fun hz => absurd hz (show ¬ _ from (by rw [nI_ltI (by omega) (by omega)]; omega))) (fun _ => ?_)
    refine r_aload_n dX9_look_50 rfl ?_
    refine r_getR dX9_look_51 fl_X9_54 rfl y0 r10 ?_
    refine r_iload_n dX9_look_54 rfl ?_
    refine r_iload dX9_look_55 rfl ?_
    refine r_virtE (c_X6_foundWith (o + 41) fs.length (nI h) (nI (v + 1)) hQ1 f10 hl) lk_X9_351 mc_X6_foundWith dX9_look_57 hQ1.1 (by decide) rfl rfl (Nat.le_of_ble_eq_true rfl) ?_
    rw [hcw (v + 1) (by omega)]
    refine r_istore dX9_look_60 (by decide) ?_
    refine r_iload_n dX9_look_62 rfl ?_
    refine r_iload dX9_look_63 rfl ?_
    refine r_mmax dX9_look_65 mm_X9_354 (by decide) (Nat.le_of_ble_eq_true rfl) ?_
    rw [mx_nI (by omega) (by omega)]
    refine r_istore_n dX9_look_68 (by decide) ?_
    refine r_iload dX9_look_69 rfl ?_
    refine r_iload dX9_look_71 rfl ?_
    refine r_iload dX9_look_73 rfl ?_
    refine r_imul dX9_look_75 ?_
    rw [pk_mul]
    refine r_iadd dX9_look_76 ?_
    rw [nI_add]
    refine r_istore dX9_look_77 (by decide) ?_
    refine r_iinc (v := nI (v + 1 + 1)) dX9_look_79 rfl (nI_inc (v + 1)) ?_
    refine r_goto (tgt := 38) dX9_look_82 (by decide) ?_
    exact w_X9_look o b h w M fs y0 r10 r4 hQ1 hb0 hMo1 hM20 f10 hl hcw hE c (v + 1) _ (by omega)

set_option maxHeartbeats 4000000 in
set_option maxRecDepth 100000 in
theorem k_look (o b s f l : Nat) (h w : Nat) {t : Nat} {T : Nat → Nat} {fp : Int32} {rr : Nat → Int32} {H M : Nat} {un : Bool} {cs : Nat → List Nat} {tx : Nat → List Int32} {e : Lf} {im : Option Lf} {wk : Option (List Nat)} {n : Nat} {kd : mK} {I : mI} {J : mJ} {P : mP} (hC : CR o b s f l n kd I J P t T fp rr H M un cs tx e im wk) (hz : okZ t T H M cs e) (hh : h < H) (hw : w < 3) : Ct yX9_look cX9_look 7 (some .int) 9 1 6 [.ref o, .int (nI h), .int (nI w)] n kd I J P (pK o n kd I J P (.inl (some (.int (ansI (gdN H M un cs e) (nI (lookA (fsN H M un cs e) h M w)))))) (CX o t T fp rr H M un cs tx e im wk)) := by
  have hC0 := hC
  have hz0 := hz
  obtain ⟨hX, hsc, hT, hSt, hLf, hIm, hWk, hQc, hPc⟩ := hC
  obtain ⟨okt, oks, okl⟩ := hz
  have hS := hX.S
  have hL := hX.L
  have hat := hX.at
  have hH8 : H ≤ 8 := oks.2.1
  have hM20 : 2 ≤ M ∧ M ≤ 20 := oks.1
  have hH : I b 0 = nI H := hSt.1.1
  have hMo : I b 1 = nI M := hSt.2.1
  obtain ⟨⟨x0, x1, x2⟩, -, ⟨-, -, hLk⟩, ⟨hQ, hA, hG, hW, hRd, hD, hPg⟩, ⟨p0, p3, p8, p10, p12, p13, p14, p15, p16, p17⟩, ⟨p4, p5, p6, p7⟩, -, -, -⟩ := id hX
  refine ct_of 4 (by decide +kernel) (Nat.le_of_ble_eq_true rfl) rfl ?_
  rcases gd2 (gdN H M un cs e) with hg | hg
  · rw [ans_f hg]
    refine r_aload_n dX9_look_0 rfl ?_
    refine r_iload_n dX9_look_1 rfl ?_
    refine r_virtV (m0_House o b (nI h) x0 p4 hS.1 (by rw [hH]; exact (isH_of hh (by omega)))) lk_X9_142 mc_X9_mustBeHouse dX9_look_2 x0 (by decide) rfl rfl (Nat.le_of_ble_eq_true rfl) ?_
    refine r_aload_n dX9_look_5 rfl ?_
    refine r_iload_n dX9_look_6 rfl ?_
    refine r_iconst (v := nI 3) dX9_look_7 (by decide) ?_
    refine r_virtV (m0_What o (nI w) (nI 3) (isH_of hw (by omega))) lk_X9_162 mc_X9_mustBeWhat dX9_look_8 x0 (by decide) rfl rfl (Nat.le_of_ble_eq_true rfl) ?_
    refine r_aload_n dX9_look_11 rfl ?_
    refine r_virt (kc2 := 1) (ks2 := 6) (k_search o b s f l hC0 hz0) lk_X9_183 mc_X9_search dX9_look_12 x0 (by decide) rfl rfl (Nat.le_of_ble_eq_true rfl) (by decide) (by decide) (fun _ _ _ _ _ _ h => nomatch h.1) ?_
    rintro v1 n1 kd1 I1 J1 P1 ⟨h00, rfl, rfl, hfr, h56, hC1, h11⟩
    cases h00
    simp only [Option.toList, List.nil_append]
    obtain ⟨f9, f10, fS, fJ⟩ := hC1.found h11 hz0
    obtain ⟨⟨y0, y1, y2⟩, -, -, ⟨hQ1, hA1, hG1, hW1, -, -, -⟩, ⟨-, -, -, r10, r12, r13, r14, -, -, -⟩, ⟨r4, r5, r6, r7⟩, -, -, -⟩ := id hC1.1
    have hH1 := hC1.H0
    have hMo1 := hC1.M0
    have hS1 := hC1.1.S
    have hL1 := hC1.1.L
    refine r_aload_n dX9_look_15 rfl ?_
    refine r_getR dX9_look_16 fl_X9_54 rfl (by assumption) (by assumption) ?_
    refine r_getI dX9_look_19 fl_X9_186 rfl hQ1.1 ?_
    rw [f10, if_neg (show ¬ _ from by rw [hg]; decide)]
    refine r_bipush (v := (-2)) dX9_look_22 (by decide) ?_
    refine r_icmp_ne (tgt := 30) dX9_look_24 (by decide) (fun hz => absurd (show _ from rfl) hz) (fun _ => ?_)
    refine r_bipush (v := (-2)) dX9_look_27 (by decide) ?_
    refine r_iret rfl dX9_look_29 ?_
    exact ⟨rfl, ⟨Nat.le_refl _, Nat.le_succ _⟩, fun q => by rw [h56]; exact q, fun a a1 a2 => ⟨rfl, (hfr a (by omega)).1, (hfr a (by omega)).2.1, (hfr a (by omega)).2.2⟩, b, s, f, l, hC1⟩
  · rw [ans_t hg]
    have hl : (fsN H M un cs e).length ≤ 1000 := gd_len hg
    refine r_aload_n dX9_look_0 rfl ?_
    refine r_iload_n dX9_look_1 rfl ?_
    refine r_virtV (m0_House o b (nI h) x0 p4 hS.1 (by rw [hH]; exact (isH_of hh (by omega)))) lk_X9_142 mc_X9_mustBeHouse dX9_look_2 x0 (by decide) rfl rfl (Nat.le_of_ble_eq_true rfl) ?_
    refine r_aload_n dX9_look_5 rfl ?_
    refine r_iload_n dX9_look_6 rfl ?_
    refine r_iconst (v := nI 3) dX9_look_7 (by decide) ?_
    refine r_virtV (m0_What o (nI w) (nI 3) (isH_of hw (by omega))) lk_X9_162 mc_X9_mustBeWhat dX9_look_8 x0 (by decide) rfl rfl (Nat.le_of_ble_eq_true rfl) ?_
    refine r_aload_n dX9_look_11 rfl ?_
    refine r_virt (kc2 := 1) (ks2 := 6) (k_search o b s f l hC0 hz0) lk_X9_183 mc_X9_search dX9_look_12 x0 (by decide) rfl rfl (Nat.le_of_ble_eq_true rfl) (by decide) (by decide) (fun _ _ _ _ _ _ h => nomatch h.1) ?_
    rintro v1 n1 kd1 I1 J1 P1 ⟨h00, rfl, rfl, hfr, h56, hC1, h11⟩
    cases h00
    simp only [Option.toList, List.nil_append]
    obtain ⟨f9, f10, fS, fJ⟩ := hC1.found h11 hz0
    obtain ⟨⟨y0, y1, y2⟩, -, -, ⟨hQ1, hA1, hG1, hW1, -, -, -⟩, ⟨-, -, -, r10, r12, r13, r14, -, -, -⟩, ⟨r4, r5, r6, r7⟩, -, -, -⟩ := id hC1.1
    have hH1 := hC1.H0
    have hMo1 := hC1.M0
    have hS1 := hC1.1.S
    have hL1 := hC1.1.L
    refine r_aload_n dX9_look_15 rfl ?_
    refine r_getR dX9_look_16 fl_X9_54 rfl (by assumption) (by assumption) ?_
    refine r_getI dX9_look_19 fl_X9_186 rfl hQ1.1 ?_
    rw [f10, if_pos hg]
    refine r_bipush (v := (-2)) dX9_look_22 (by decide) ?_
    refine r_icmp_ne (tgt := 30) dX9_look_24 (by decide) (fun _ => ?_) (fun hz => absurd hz (show ¬ _ from (nI_m2 (by omega))))
    refine r_iconst (v := nI 0) dX9_look_30 (by decide) ?_
    refine r_istore_n dX9_look_31 (by decide) ?_
    refine r_iconst (v := nI 0) dX9_look_32 (by decide) ?_
    refine r_istore dX9_look_33 (by decide) ?_
    refine r_iconst (v := nI 1) dX9_look_35 (by decide) ?_
    refine r_istore dX9_look_36 (by decide) ?_
    refine w_X9_look o b h w M (fsN H M un cs e) y0 r10 r4 hQ1 hS1.1 hMo1 hM20.2 (by rw [f10, if_pos hg]) hl (fun v hv => cw_of hM20.2 hh hH8 (by omega) (fsN H M un cs e) _ (zR_rng hH8 hM20.2).2 (fun i hi => (fJ hg).2 i h hi hh)) (fun z6 => ?_) M 0 _ (by omega)
    have g1 := lkSq_le (h := h) hl M
    have g2 := lkSq_0 (M := M) (zR_rng (un := un) (cs := cs) (e := e) (r := nI (spB H cs e)) (w := nI 1) (E := 1001) hH8 hM20.2).2 hh
    have g2 : lkSq (fsN H M un cs e) h M = 0 ↔ (fsN H M un cs e).length = 0 := g2
    rcases (show w = 0 ∨ w = 1 ∨ w = 2 by omega) with r | r | r
    · rw [r, show lookA (fsN H M un cs e) h M 0 = lkMx (fsN H M un cs e) h M from rfl]
      refine r_iload_n dX9_look_85 rfl ?_
      refine r_if_ne (tgt := 91) dX9_look_86 (by decide) (fun hz => absurd (show _ from rfl) hz) (fun _ => ?_)
      refine r_iload_n dX9_look_89 rfl ?_
      refine r_iret rfl dX9_look_90 ?_
      exact ⟨rfl, ⟨Nat.le_refl _, Nat.le_succ _⟩, fun q => by rw [h56]; exact q, fun a a1 a2 => ⟨rfl, (hfr a (by omega)).1, (hfr a (by omega)).2.1, (hfr a (by omega)).2.2⟩, b, s, f, l, hC1⟩
    · rw [r]
      by_cases q : (fsN H M un cs e).length = 0
      · rw [show lookA (fsN H M un cs e) h M 1 = 0 from by unfold lookA; rw [if_neg (by decide), if_pos q], g2.mpr q]
        refine r_iload_n dX9_look_85 rfl ?_
        refine r_if_ne (tgt := 91) dX9_look_86 (by decide) (fun _ => ?_) (fun hz => absurd hz (show ¬ _ from (by decide)))
        refine r_iload dX9_look_91 rfl ?_
        refine r_if_ne (tgt := 107) dX9_look_93 (by decide) (fun hz => absurd (show _ from rfl) hz) (fun _ => ?_)
        refine r_iload_n dX9_look_96 rfl ?_
        refine r_iconst (v := nI 1) dX9_look_97 (by decide) ?_
        refine r_icmp_ne (tgt := 105) dX9_look_98 (by decide) (fun hz => absurd (show _ from rfl) hz) (fun _ => ?_)
        refine r_iconst (v := nI 0) dX9_look_101 (by decide) ?_
        refine r_goto (tgt := 106) dX9_look_102 (by decide) ?_
        refine r_iret rfl dX9_look_106 ?_
        exact ⟨rfl, ⟨Nat.le_refl _, Nat.le_succ _⟩, fun q => by rw [h56]; exact q, fun a a1 a2 => ⟨rfl, (hfr a (by omega)).1, (hfr a (by omega)).2.1, (hfr a (by omega)).2.2⟩, b, s, f, l, hC1⟩
      · have g3 : ¬ lkSq (fsN H M un cs e) h M = 0 := fun z => q (g2.mp z)
        have g4 : 0 < Nat.gcd (lkSq (fsN H M un cs e) h M) (fsN H M un cs e).length := Nat.gcd_pos_of_pos_right _ (by omega)
        have g5 : Nat.gcd (lkSq (fsN H M un cs e) h M) (fsN H M un cs e).length ≤ (fsN H M un cs e).length := Nat.gcd_le_right _ (by omega)
        rw [show lookA (fsN H M un cs e) h M 1 = (lkSq (fsN H M un cs e) h M) / Nat.gcd (lkSq (fsN H M un cs e) h M) (fsN H M un cs e).length from by unfold lookA; rw [if_neg (by decide), if_neg q]; rfl]
        refine r_iload_n dX9_look_85 rfl ?_
        refine r_if_ne (tgt := 91) dX9_look_86 (by decide) (fun _ => ?_) (fun hz => absurd hz (show ¬ _ from (by decide)))
        refine r_iload dX9_look_91 rfl ?_
        refine r_if_ne (tgt := 107) dX9_look_93 (by decide) (fun _ => ?_) (fun hz => absurd hz (show ¬ _ from (nI_ne0 (by omega) (by omega))))
        refine r_iload dX9_look_107 rfl ?_
        refine r_aload_n dX9_look_109 rfl ?_
        refine r_getR dX9_look_110 fl_X9_54 rfl y0 r10 ?_
        refine r_getI dX9_look_113 fl_X9_186 rfl hQ1.1 ?_
        rw [f10, if_pos hg]
        refine r_statE (c_X9_commonDivisor (lkSq (fsN H M un cs e) h M) (fsN H M un cs e).length (by omega) (by omega)) lk_X9_357 mc_X9_commonDivisor dX9_look_116 (by decide) rfl rfl (Nat.le_of_ble_eq_true rfl) ?_
        refine r_istore dX9_look_119 (by decide) ?_
        refine r_iload dX9_look_121 rfl ?_
        refine r_iconst (v := nI 1) dX9_look_123 (by decide) ?_
        refine r_icmp_ge (tgt := 131) dX9_look_124 (by decide) (fun _ => ?_) (fun hz => absurd (show _ from (by rw [nI_leI (by omega) (by omega)]; omega)) hz)
        refine r_iload_n dX9_look_131 rfl ?_
        refine r_iconst (v := nI 1) dX9_look_132 (by decide) ?_
        refine r_icmp_ne (tgt := 141) dX9_look_133 (by decide) (fun hz => absurd (show _ from rfl) hz) (fun _ => ?_)
        refine r_iload dX9_look_136 rfl ?_
        refine r_goto (tgt := 148) dX9_look_138 (by decide) ?_
        refine r_iload dX9_look_148 rfl ?_
        refine r_idiv dX9_look_150 (nI_ne0 (by omega) (by omega)) ?_
        rw [pk_div (by omega) (by omega) (by omega)]
        refine r_iret rfl dX9_look_151 ?_
        exact ⟨rfl, ⟨Nat.le_refl _, Nat.le_succ _⟩, fun q => by rw [h56]; exact q, fun a a1 a2 => ⟨rfl, (hfr a (by omega)).1, (hfr a (by omega)).2.1, (hfr a (by omega)).2.2⟩, b, s, f, l, hC1⟩
    · rw [r]
      by_cases q : (fsN H M un cs e).length = 0
      · rw [show lookA (fsN H M un cs e) h M 2 = 1 from by unfold lookA; rw [if_neg (by decide), if_pos q], g2.mpr q]
        refine r_iload_n dX9_look_85 rfl ?_
        refine r_if_ne (tgt := 91) dX9_look_86 (by decide) (fun _ => ?_) (fun hz => absurd hz (show ¬ _ from (by decide)))
        refine r_iload dX9_look_91 rfl ?_
        refine r_if_ne (tgt := 107) dX9_look_93 (by decide) (fun hz => absurd (show _ from rfl) hz) (fun _ => ?_)
        refine r_iload_n dX9_look_96 rfl ?_
        refine r_iconst (v := nI 1) dX9_look_97 (by decide) ?_
        refine r_icmp_ne (tgt := 105) dX9_look_98 (by decide) (fun _ => ?_) (fun hz => absurd hz (show ¬ _ from (by decide)))
        refine r_iconst (v := nI 1) dX9_look_105 (by decide) ?_
        refine r_iret rfl dX9_look_106 ?_
        exact ⟨rfl, ⟨Nat.le_refl _, Nat.le_succ _⟩, fun q => by rw [h56]; exact q, fun a a1 a2 => ⟨rfl, (hfr a (by omega)).1, (hfr a (by omega)).2.1, (hfr a (by omega)).2.2⟩, b, s, f, l, hC1⟩
      · have g3 : ¬ lkSq (fsN H M un cs e) h M = 0 := fun z => q (g2.mp z)
        have g4 : 0 < Nat.gcd (lkSq (fsN H M un cs e) h M) (fsN H M un cs e).length := Nat.gcd_pos_of_pos_right _ (by omega)
        have g5 : Nat.gcd (lkSq (fsN H M un cs e) h M) (fsN H M un cs e).length ≤ (fsN H M un cs e).length := Nat.gcd_le_right _ (by omega)
        rw [show lookA (fsN H M un cs e) h M 2 = ((fsN H M un cs e).length) / Nat.gcd (lkSq (fsN H M un cs e) h M) (fsN H M un cs e).length from by unfold lookA; rw [if_neg (by decide), if_neg q]; rfl]
        refine r_iload_n dX9_look_85 rfl ?_
        refine r_if_ne (tgt := 91) dX9_look_86 (by decide) (fun _ => ?_) (fun hz => absurd hz (show ¬ _ from (by decide)))
        refine r_iload dX9_look_91 rfl ?_
        refine r_if_ne (tgt := 107) dX9_look_93 (by decide) (fun _ => ?_) (fun hz => absurd hz (show ¬ _ from (nI_ne0 (by omega) (by omega))))
        refine r_iload dX9_look_107 rfl ?_
        refine r_aload_n dX9_look_109 rfl ?_
        refine r_getR dX9_look_110 fl_X9_54 rfl y0 r10 ?_
        refine r_getI dX9_look_113 fl_X9_186 rfl hQ1.1 ?_
        rw [f10, if_pos hg]
        refine r_statE (c_X9_commonDivisor (lkSq (fsN H M un cs e) h M) (fsN H M un cs e).length (by omega) (by omega)) lk_X9_357 mc_X9_commonDivisor dX9_look_116 (by decide) rfl rfl (Nat.le_of_ble_eq_true rfl) ?_
        refine r_istore dX9_look_119 (by decide) ?_
        refine r_iload dX9_look_121 rfl ?_
        refine r_iconst (v := nI 1) dX9_look_123 (by decide) ?_
        refine r_icmp_ge (tgt := 131) dX9_look_124 (by decide) (fun _ => ?_) (fun hz => absurd (show _ from (by rw [nI_leI (by omega) (by omega)]; omega)) hz)
        refine r_iload_n dX9_look_131 rfl ?_
        refine r_iconst (v := nI 1) dX9_look_132 (by decide) ?_
        refine r_icmp_ne (tgt := 141) dX9_look_133 (by decide) (fun _ => ?_) (fun hz => absurd hz (show ¬ _ from (by decide)))
        refine r_aload_n dX9_look_141 rfl ?_
        refine r_getR dX9_look_142 fl_X9_54 rfl y0 r10 ?_
        refine r_getI dX9_look_145 fl_X9_186 rfl hQ1.1 ?_
        rw [f10, if_pos hg]
        refine r_iload dX9_look_148 rfl ?_
        refine r_idiv dX9_look_150 (nI_ne0 (by omega) (by omega)) ?_
        rw [pk_div (by omega) (by omega) (by omega)]
        refine r_iret rfl dX9_look_151 ?_
        exact ⟨rfl, ⟨Nat.le_refl _, Nat.le_succ _⟩, fun q => by rw [h56]; exact q, fun a a1 a2 => ⟨rfl, (hfr a (by omega)).1, (hfr a (by omega)).2.1, (hfr a (by omega)).2.2⟩, b, s, f, l, hC1⟩

set_option maxHeartbeats 4000000 in
set_option maxRecDepth 100000 in
theorem k_look_no (o b s f l : Nat) (h : Nat) (y : Int32) {t : Nat} {T : Nat → Nat} {fp : Int32} {rr : Nat → Int32} {H M : Nat} {un : Bool} {cs : Nat → List Nat} {tx : Nat → List Int32} {e : Lf} {im : Option Lf} {wk : Option (List Nat)} {n : Nat} {kd : mK} {I : mI} {J : mJ} {P : mP} (hC : CR o b s f l n kd I J P t T fp rr H M un cs tx e im wk) (hz : okZ t T H M cs e) (hh : h < H) (hy : (!decide (y < 0) && decide (y < nI 3)) = false) : Ct yX9_look cX9_look 7 (some .int) 9 1 6 [.ref o, .int (nI h), .int y] n kd I J P (fun z n' kd' I' J' P' => z = .inr "java/util/NoSuchElementException" ∧ n' = n ∧ kd' = kd ∧ I' = I ∧ J' = J ∧ P' = P) := by
  obtain ⟨hX, hsc, hT, hSt, hLf, hIm, hWk, hQc, hPc⟩ := hC
  obtain ⟨okt, oks, okl⟩ := hz
  have hS := hX.S
  have hL := hX.L
  have hat := hX.at
  have hH8 : H ≤ 8 := oks.2.1
  have hM20 : 2 ≤ M ∧ M ≤ 20 := oks.1
  have hH : I b 0 = nI H := hSt.1.1
  have hMo : I b 1 = nI M := hSt.2.1
  obtain ⟨⟨x0, x1, x2⟩, -, ⟨-, -, hLk⟩, ⟨hQ, hA, hG, hW, hRd, hD, hPg⟩, ⟨p0, p3, p8, p10, p12, p13, p14, p15, p16, p17⟩, ⟨p4, p5, p6, p7⟩, -, -, -⟩ := id hX
  refine ct_of 4 (by decide +kernel) (Nat.le_of_ble_eq_true rfl) rfl ?_
  refine r_aload_n dX9_look_0 rfl ?_
  refine r_iload_n dX9_look_1 rfl ?_
  refine r_virtV (m0_House o b (nI h) x0 p4 hS.1 (by rw [hH]; exact (isH_of hh (by omega)))) lk_X9_142 mc_X9_mustBeHouse dX9_look_2 x0 (by decide) rfl rfl (Nat.le_of_ble_eq_true rfl) ?_
  refine r_aload_n dX9_look_5 rfl ?_
  refine r_iload_n dX9_look_6 rfl ?_
  refine r_iconst (v := nI 3) dX9_look_7 (by decide) ?_
  have hc8 := c_X9_mustBeWhat (n := n) (kd := kd) (I := I) (J := J) (P := P) o (y) (nI 3)
  rw [hy] at hc8
  exact r_virtX hc8 lk_X9_162 mc_X9_mustBeWhat dX9_look_8 x0 (by decide) rfl rfl (Nat.le_of_ble_eq_true rfl) (by decide) (by decide) ⟨rfl, rfl, rfl, rfl, rfl, rfl⟩

set_option maxHeartbeats 4000000 in
set_option maxRecDepth 100000 in
theorem w_X10_look (m h w M : Nat) (fs : List (Nat → Nat)) {post : am_Post} {n : Nat} {kd : mK} {I : mI} {J : mJ} {P : mP} (hM : kM kd P m) (hMo1 : I m 2 = nI M) (hM20 : M ≤ 20) (hh : h < 8) (hF : I m 52 = nI fs.length) (hl : fs.length ≤ 1000) (hq : ∀ i, i < fs.length → I (m + 27) (8 * i + h) = nI (nmF fs i h) ∧ nmF fs i h < 2 ^ 31) (hE : ∀ z6 z7, Ru yX10_look.cls cX10_look 8 (some .int) yX10_look.name 10 (post) 0 0 94 [some (.ref m), some (.int (nI h)), some (.int (nI w)), some (.int (nI (lkMx fs h M))), some (.int (nI (lkSq fs h M))), some (.int (nI (M + 1))), z6, z7] [] n kd I J P) : ∀ (c v : Nat) (z6 z7 : Option Value), v + c = M → Ru yX10_look.cls cX10_look 8 (some .int) yX10_look.name 10 (post) 0 0 47 [some (.ref m), some (.int (nI h)), some (.int (nI w)), some (.int (nI (lkMx fs h v))), some (.int (nI (lkSq fs h v))), some (.int (nI (v + 1))), z6, z7] [] n kd I J P
  | 0, v, z6, z7, hv => by
    rw [show v = M by omega]
    refine r_iload dX10_look_47 rfl ?_
    refine r_aload_n dX10_look_49 rfl ?_
    refine r_getI dX10_look_50 fl_X10_7 rfl (kM_0 hM) ?_
    rw [hMo1]
    refine r_icmp_gt (tgt := 94) dX10_look_53 (by decide) (fun _ => ?_) (fun hz => absurd (show _ from (by rw [nI_ltI (by omega) (by omega)]; omega)) hz)
    exact hE _ _
  | c + 1, v, z6, z7, hv => by
    have g1 := lkMx_le (h := h) hl v
    have g2 := Nat.le_trans (cntN_le fs h (v + 1)) hl
    by_cases q : cntN fs h (v + 1) ≤ lkMx fs h v
    · skip
      refine r_iload dX10_look_47 rfl ?_
      refine r_aload_n dX10_look_49 rfl ?_
      refine r_getI dX10_look_50 fl_X10_7 rfl (kM_0 hM) ?_
      rw [hMo1]
      refine r_icmp_gt (tgt := 94) dX10_look_53 (by decide) (fun hz => absurd hz (show ¬ _ from (by rw [nI_ltI (by omega) (by omega)]; omega))) (fun _ => ?_)
      refine r_aload_n dX10_look_56 rfl ?_
      refine r_iload_n dX10_look_57 rfl ?_
      refine r_iload dX10_look_58 rfl ?_
      refine r_virtE (c_X10_leftBy m h (v + 1) fs.length (fun i => nmF fs i h) hM hh (by omega) hF hl hq) lk_X10_526 mc_X10_leftBy dX10_look_60 (kM_0 hM) (by decide) rfl rfl (Nat.le_of_ble_eq_true rfl) ?_
      rw [cn_of (h := h) fs _ (fun i _ => rfl)]
      refine r_istore dX10_look_63 (by decide) ?_
      refine r_iload dX10_look_65 rfl ?_
      refine r_iload_n dX10_look_67 rfl ?_
      refine r_icmp_le (tgt := 76) dX10_look_68 (by decide) (fun _ => ?_) (fun hz => absurd (show _ from ((nI_leI (by omega) (by omega)).mpr q)) hz)
      refine r_iload_n dX10_look_76 rfl ?_
      refine r_istore_n dX10_look_77 (by decide) ?_
      refine r_iload dX10_look_78 rfl ?_
      refine r_iload dX10_look_80 rfl ?_
      refine r_iload dX10_look_82 rfl ?_
      refine r_imul dX10_look_84 ?_
      rw [pk_mul]
      refine r_iadd dX10_look_85 ?_
      rw [nI_add]
      refine r_istore dX10_look_86 (by decide) ?_
      refine r_iinc (v := nI (v + 1 + 1)) dX10_look_88 rfl (nI_inc (v + 1)) ?_
      refine r_goto (tgt := 47) dX10_look_91 (by decide) ?_
      have hi2 := w_X10_look m h w M fs hM hMo1 hM20 hh hF hl hq hE c (v + 1) (some (.int (nI (cntN fs h (v + 1))))) z7 (by omega)
      rw [show lkMx fs h (v + 1) = lkMx fs h v from by show max _ _ = _; omega] at hi2
      exact hi2
    · skip
      refine r_iload dX10_look_47 rfl ?_
      refine r_aload_n dX10_look_49 rfl ?_
      refine r_getI dX10_look_50 fl_X10_7 rfl (kM_0 hM) ?_
      rw [hMo1]
      refine r_icmp_gt (tgt := 94) dX10_look_53 (by decide) (fun hz => absurd hz (show ¬ _ from (by rw [nI_ltI (by omega) (by omega)]; omega))) (fun _ => ?_)
      refine r_aload_n dX10_look_56 rfl ?_
      refine r_iload_n dX10_look_57 rfl ?_
      refine r_iload dX10_look_58 rfl ?_
      refine r_virtE (c_X10_leftBy m h (v + 1) fs.length (fun i => nmF fs i h) hM hh (by omega) hF hl hq) lk_X10_526 mc_X10_leftBy dX10_look_60 (kM_0 hM) (by decide) rfl rfl (Nat.le_of_ble_eq_true rfl) ?_
      rw [cn_of (h := h) fs _ (fun i _ => rfl)]
      refine r_istore dX10_look_63 (by decide) ?_
      refine r_iload dX10_look_65 rfl ?_
      refine r_iload_n dX10_look_67 rfl ?_
      refine r_icmp_le (tgt := 76) dX10_look_68 (by decide) (fun hz => absurd hz (show ¬ _ from (by rw [nI_leI (by omega) (by omega)]; exact q))) (fun _ => ?_)
      refine r_iload dX10_look_71 rfl ?_
      refine r_goto (tgt := 77) dX10_look_73 (by decide) ?_
      refine r_istore_n dX10_look_77 (by decide) ?_
      refine r_iload dX10_look_78 rfl ?_
      refine r_iload dX10_look_80 rfl ?_
      refine r_iload dX10_look_82 rfl ?_
      refine r_imul dX10_look_84 ?_
      rw [pk_mul]
      refine r_iadd dX10_look_85 ?_
      rw [nI_add]
      refine r_istore dX10_look_86 (by decide) ?_
      refine r_iinc (v := nI (v + 1 + 1)) dX10_look_88 rfl (nI_inc (v + 1)) ?_
      refine r_goto (tgt := 47) dX10_look_91 (by decide) ?_
      have hi2 := w_X10_look m h w M fs hM hMo1 hM20 hh hF hl hq hE c (v + 1) (some (.int (nI (cntN fs h (v + 1))))) z7 (by omega)
      rw [show lkMx fs h (v + 1) = cntN fs h (v + 1) from by show max _ _ = _; omega] at hi2
      exact hi2

set_option maxHeartbeats 4000000 in
set_option maxRecDepth 100000 in
theorem w_X10_gcd (m h w g sq a0 b0 : Nat) {post : am_Post} {n : Nat} {kd : mK} {I : mI} {J : mJ} {P : mP} (hE : ∀ z6 z7, Ru yX10_look.cls cX10_look 8 (some .int) yX10_look.name 10 (post) 0 0 144 [some (.ref m), some (.int (nI h)), some (.int (nI w)), some (.int (nI g)), some (.int (nI sq)), some (.int (nI (Nat.gcd a0 b0))), z6, z7] [] n kd I J P) : ∀ (B a b : Nat) (z7 : Option Value), b ≤ B → a < 2 ^ 31 → b < 2 ^ 31 → Nat.gcd a b = Nat.gcd a0 b0 → Ru yX10_look.cls cX10_look 8 (some .int) yX10_look.name 10 (post) 0 0 121 [some (.ref m), some (.int (nI h)), some (.int (nI w)), some (.int (nI g)), some (.int (nI sq)), some (.int (nI a)), some (.int (nI b)), z7] [] n kd I J P := by
  intro B
  induction B with
  | zero =>
    intro a b z7 hb ha hb2 hgc
    have hb0 : b = 0 := by omega
    have hga : Nat.gcd a0 b0 = a := by rw [← hgc, hb0, Nat.gcd_zero_right]
    rw [hga] at hE
    refine r_iload dX10_look_121 rfl ?_
    refine r_if_eq (tgt := 144) dX10_look_123 (by decide) (fun _ => ?_) (fun hz => absurd (show _ from (by rw [hb0]; rfl)) hz)
    exact hE _ _
  | succ B ih =>
    intro a b z7 hb ha hb2 hgc
    by_cases q : b = 0
    · have hga : Nat.gcd a0 b0 = a := by rw [← hgc, q, Nat.gcd_zero_right]
      rw [hga] at hE
      refine r_iload dX10_look_121 rfl ?_
      refine r_if_eq (tgt := 144) dX10_look_123 (by decide) (fun _ => ?_) (fun hz => absurd (show _ from (by rw [q]; rfl)) hz)
      exact hE _ _
    · have hlt := Nat.mod_lt a (show 0 < b by omega)
      refine r_iload dX10_look_121 rfl ?_
      refine r_if_eq (tgt := 144) dX10_look_123 (by decide) (fun hz => absurd hz (show ¬ _ from (nI_ne0 (by omega) hb2))) (fun _ => ?_)
      refine r_iload dX10_look_126 rfl ?_
      refine r_iload dX10_look_128 rfl ?_
      refine r_irem dX10_look_130 (nI_ne0 (by omega) hb2) ?_
      rw [pk_rem ha (by omega) hb2]
      refine r_istore dX10_look_131 (by decide) ?_
      refine r_iload dX10_look_133 rfl ?_
      refine r_istore dX10_look_135 (by decide) ?_
      refine r_iload dX10_look_137 rfl ?_
      refine r_istore dX10_look_139 (by decide) ?_
      refine r_goto (tgt := 121) dX10_look_141 (by decide) ?_
      exact ih b (a % b) _ (by omega) hb2 (by omega) (by rw [gcd_step]; exact hgc)

set_option maxHeartbeats 4000000 in
set_option maxRecDepth 100000 in
theorem q_look (m : Nat) (h w : Nat) {t : Nat} {T : Nat → Nat} {fp : Int32} {rr : Nat → Int32} {H M : Nat} {un : Bool} {cs : Nat → List Nat} {tx : Nat → List Int32} {e : Lf} {im : Option Lf} {wk : Option (List Nat)} {n : Nat} {kd : mK} {I : mI} {J : mJ} {P : mP} (hC : RR m kd I P t T fp rr H M un cs tx e im wk) (hz : okZ t T H M cs e) (hh : h < H) (hw : w < 3) : Ct yX10_look cX10_look 8 (some .int) 10 0 0 [.ref m, .int (nI h), .int (nI w)] n kd I J P (pQ m n kd I J P (some (.int (ansI (gdN H M un cs e) (nI (lookA (fsN H M un cs e) h M w))))) 0 (RX m t T fp rr H M un cs tx e im wk)) := by
  refine ct_of 5 (by decide +kernel) (Nat.le_of_ble_eq_true rfl) rfl ?_
  refine r_aload_n dX10_look_0 rfl ?_
  refine r_iconst (v := nI 0) dX10_look_1 (by decide) ?_
  refine r_putI dX10_look_2 fl_X10_193 rfl rfl (kM_0 hC.1) ?_
  refine q_th hC (fun I hC h0 => ?_)
  have hC0 := hC
  have hz0 := hz
  obtain ⟨hM, hT, hSt, hLf, hIm, hWk⟩ := hC
  obtain ⟨okt, oks, okl⟩ := hz
  have hH8 : H ≤ 8 := oks.2.1
  have hM20 : 2 ≤ M ∧ M ≤ 20 := oks.1
  have hH : I m 1 = nI H := hSt.1.1
  have hMo : I m 2 = nI M := hSt.1.2.1
  rcases gd2 (gdN H M un cs e) with hg | hg
  · rw [ans_f hg]
    refine r_aload_n dX10_look_5 rfl ?_
    refine r_iload_n dX10_look_6 rfl ?_
    refine r_virtE (c_X10_isHouse m (nI h) hM h0) lk_X10_373 mc_X10_isHouse dX10_look_7 (kM_0 hM) (by decide) rfl rfl (Nat.le_of_ble_eq_true rfl) ?_
    rw [show (!decide (nI h < 0) && decide (nI h < I m 1)) = true from by rw [hH]; exact (isH_of hh (by omega)), thM_ok]
    refine r_if_eq (tgt := 27) dX10_look_10 (by decide) (fun hz => absurd hz (show ¬ _ from (by decide))) (fun _ => ?_)
    refine r_aload_n dX10_look_13 rfl ?_
    refine r_iload_n dX10_look_14 rfl ?_
    refine r_iconst (v := nI 0) dX10_look_15 (by decide) ?_
    refine r_iconst (v := nI 2) dX10_look_16 (by decide) ?_
    refine r_statE (c_X10_within (nI w) (nI 0) (nI 2)) lk_X10_369 mc_X10_within dX10_look_17 (by decide) rfl rfl (Nat.le_of_ble_eq_true rfl) ?_
    rw [show (!decide (nI w < nI 0) && !decide (nI 2 < nI w)) = true from wi_of (by omega) (by omega) (by decide)]
    refine r_iconst (v := nI 1) dX10_look_20 (by decide) ?_
    refine r_virtE (c_X10_right m true (nI 1) hM h0 (by decide)) lk_X10_343 mc_X10_right dX10_look_21 (kM_0 hM) (by decide) rfl rfl (Nat.le_of_ble_eq_true rfl) ?_
    rw [thM_ok]
    refine r_if_ne (tgt := 29) dX10_look_24 (by decide) (fun _ => ?_) (fun hz => absurd hz (show ¬ _ from (by decide)))
    refine r_aload_n dX10_look_29 rfl ?_
    refine r_virt (kc2 := 0) (ks2 := 0) (q_seeksAll m hC0 hz0) lk_X10_436 mc_X10_seeksAll dX10_look_30 (kM_0 hM) (by decide) rfl rfl (Nat.le_of_ble_eq_true rfl) (by decide) (by decide) (fun _ _ _ _ _ _ h => nomatch h.1) ?_
    rintro v1 n1 kd1 I1 J1 P1 ⟨h00, rfl, rfl, rfl, rfl, hfr, hfd⟩
    cases h00
    simp only [Option.toList, List.nil_append, List.cons_append]
    have hC1 := RR.rf hfr hC0
    have h01 : I1 m 0 = 0 := by rw [hfr.2 0 (by decide) (by decide)]; exact h0
    have hH1 := hC1.2.2.1.1.1
    have hMo1 := hC1.2.2.1.1.2.1
    rw [hg]
    refine r_if_ne (tgt := 39) dX10_look_33 (by decide) (fun hz => absurd (show _ from rfl) hz) (fun _ => ?_)
    refine r_bipush (v := (-2)) dX10_look_36 (by decide) ?_
    refine r_iret rfl dX10_look_38 ?_
    exact ⟨rfl, rfl, rfl, rfl, fun a ha => ⟨hfr.1 a (by omega) (by omega) (by omega) (by omega), rfl⟩, h01, hC1⟩
  · rw [ans_t hg]
    have hl : (fsN H M un cs e).length ≤ 1000 := gd_len hg
    refine r_aload_n dX10_look_5 rfl ?_
    refine r_iload_n dX10_look_6 rfl ?_
    refine r_virtE (c_X10_isHouse m (nI h) hM h0) lk_X10_373 mc_X10_isHouse dX10_look_7 (kM_0 hM) (by decide) rfl rfl (Nat.le_of_ble_eq_true rfl) ?_
    rw [show (!decide (nI h < 0) && decide (nI h < I m 1)) = true from by rw [hH]; exact (isH_of hh (by omega)), thM_ok]
    refine r_if_eq (tgt := 27) dX10_look_10 (by decide) (fun hz => absurd hz (show ¬ _ from (by decide))) (fun _ => ?_)
    refine r_aload_n dX10_look_13 rfl ?_
    refine r_iload_n dX10_look_14 rfl ?_
    refine r_iconst (v := nI 0) dX10_look_15 (by decide) ?_
    refine r_iconst (v := nI 2) dX10_look_16 (by decide) ?_
    refine r_statE (c_X10_within (nI w) (nI 0) (nI 2)) lk_X10_369 mc_X10_within dX10_look_17 (by decide) rfl rfl (Nat.le_of_ble_eq_true rfl) ?_
    rw [show (!decide (nI w < nI 0) && !decide (nI 2 < nI w)) = true from wi_of (by omega) (by omega) (by decide)]
    refine r_iconst (v := nI 1) dX10_look_20 (by decide) ?_
    refine r_virtE (c_X10_right m true (nI 1) hM h0 (by decide)) lk_X10_343 mc_X10_right dX10_look_21 (kM_0 hM) (by decide) rfl rfl (Nat.le_of_ble_eq_true rfl) ?_
    rw [thM_ok]
    refine r_if_ne (tgt := 29) dX10_look_24 (by decide) (fun _ => ?_) (fun hz => absurd hz (show ¬ _ from (by decide)))
    refine r_aload_n dX10_look_29 rfl ?_
    refine r_virt (kc2 := 0) (ks2 := 0) (q_seeksAll m hC0 hz0) lk_X10_436 mc_X10_seeksAll dX10_look_30 (kM_0 hM) (by decide) rfl rfl (Nat.le_of_ble_eq_true rfl) (by decide) (by decide) (fun _ _ _ _ _ _ h => nomatch h.1) ?_
    rintro v1 n1 kd1 I1 J1 P1 ⟨h00, rfl, rfl, rfl, rfl, hfr, hfd⟩
    cases h00
    simp only [Option.toList, List.nil_append, List.cons_append]
    have hC1 := RR.rf hfr hC0
    have h01 : I1 m 0 = 0 := by rw [hfr.2 0 (by decide) (by decide)]; exact h0
    have hH1 := hC1.2.2.1.1.1
    have hMo1 := hC1.2.2.1.1.2.1
    rw [hg]
    refine r_if_ne (tgt := 39) dX10_look_33 (by decide) (fun _ => ?_) (fun hz => absurd hz (show ¬ _ from (by decide)))
    refine r_iconst (v := nI 0) dX10_look_39 (by decide) ?_
    refine r_istore_n dX10_look_40 (by decide) ?_
    refine r_iconst (v := nI 0) dX10_look_41 (by decide) ?_
    refine r_istore dX10_look_42 (by decide) ?_
    refine r_iconst (v := nI 1) dX10_look_44 (by decide) ?_
    refine r_istore dX10_look_45 (by decide) ?_
    refine w_X10_look m h w M (fsN H M un cs e) hM hMo1 hM20.2 (by omega) (hfd hg).1 hl (fun i hi => ⟨(hfd hg).2.2 i h hi hh, by have := (nmF_rng (fs_rng hH8 hM20.2) i h hi hh).2; omega⟩) (fun z6 z7 => ?_) M 0 _ _ (by omega)
    have g1 := lkSq_le (h := h) hl M
    have g2 := lkSq_0 (M := M) (zR_rng (un := un) (cs := cs) (e := e) (r := nI (spB H cs e)) (w := nI 1) (E := 1001) hH8 hM20.2).2 hh
    have g2 : lkSq (fsN H M un cs e) h M = 0 ↔ (fsN H M un cs e).length = 0 := g2
    rcases (show w = 0 ∨ w = 1 ∨ w = 2 by omega) with r | r | r
    · rw [r, show lookA (fsN H M un cs e) h M 0 = lkMx (fsN H M un cs e) h M from rfl]
      refine r_iload_n dX10_look_94 rfl ?_
      refine r_if_ne (tgt := 100) dX10_look_95 (by decide) (fun hz => absurd (show _ from rfl) hz) (fun _ => ?_)
      refine r_iload_n dX10_look_98 rfl ?_
      refine r_iret rfl dX10_look_99 ?_
      exact ⟨rfl, rfl, rfl, rfl, fun a ha => ⟨hfr.1 a (by omega) (by omega) (by omega) (by omega), rfl⟩, h01, hC1⟩
    · rw [r]
      by_cases q : (fsN H M un cs e).length = 0
      · rw [show lookA (fsN H M un cs e) h M 1 = 0 from by unfold lookA; rw [if_neg (by decide), if_pos q]]
        refine r_iload_n dX10_look_94 rfl ?_
        refine r_if_ne (tgt := 100) dX10_look_95 (by decide) (fun _ => ?_) (fun hz => absurd hz (show ¬ _ from (by decide)))
        refine r_aload_n dX10_look_100 rfl ?_
        refine r_getI dX10_look_101 fl_X10_413 rfl (kM_0 hM) ?_
        rw [(hfd hg).1]
        refine r_if_ne (tgt := 111) dX10_look_104 (by decide) (fun hz => absurd (show _ from (by rw [q]; rfl)) hz) (fun _ => ?_)
        refine r_iload_n dX10_look_107 rfl ?_
        refine r_iconst (v := nI 1) dX10_look_108 (by decide) ?_
        refine r_isub dX10_look_109 ?_
        rw [pk_sub (by decide)]
        refine r_iret rfl dX10_look_110 ?_
        exact ⟨rfl, rfl, rfl, rfl, fun a ha => ⟨hfr.1 a (by omega) (by omega) (by omega) (by omega), rfl⟩, h01, hC1⟩
      · have g3 : ¬ lkSq (fsN H M un cs e) h M = 0 := fun z => q (g2.mp z)
        have g4 : 0 < Nat.gcd (lkSq (fsN H M un cs e) h M) (fsN H M un cs e).length := Nat.gcd_pos_of_pos_right _ (by omega)
        have g5 : Nat.gcd (lkSq (fsN H M un cs e) h M) (fsN H M un cs e).length ≤ (fsN H M un cs e).length := Nat.gcd_le_right _ (by omega)
        rw [show lookA (fsN H M un cs e) h M 1 = (lkSq (fsN H M un cs e) h M) / Nat.gcd (lkSq (fsN H M un cs e) h M) (fsN H M un cs e).length from by unfold lookA; rw [if_neg (by decide), if_neg q]; rfl]
        refine r_iload_n dX10_look_94 rfl ?_
        refine r_if_ne (tgt := 100) dX10_look_95 (by decide) (fun _ => ?_) (fun hz => absurd hz (show ¬ _ from (by decide)))
        refine r_aload_n dX10_look_100 rfl ?_
        refine r_getI dX10_look_101 fl_X10_413 rfl (kM_0 hM) ?_
        rw [(hfd hg).1]
        refine r_if_ne (tgt := 111) dX10_look_104 (by decide) (fun _ => ?_) (fun hz => absurd hz (show ¬ _ from (nI_ne0 (by omega) (by omega))))
        refine r_iload dX10_look_111 rfl ?_
        refine r_istore dX10_look_113 (by decide) ?_
        refine r_aload_n dX10_look_115 rfl ?_
        refine r_getI dX10_look_116 fl_X10_413 rfl (kM_0 hM) ?_
        rw [(hfd hg).1]
        refine r_istore dX10_look_119 (by decide) ?_
        refine w_X10_gcd m h 1 _ (lkSq (fsN H M un cs e) h M) (lkSq (fsN H M un cs e) h M) (fsN H M un cs e).length (fun z6 z7 => ?_) (fsN H M un cs e).length _ _ _ (Nat.le_refl _) (by omega) (by omega) rfl
        refine r_iload_n dX10_look_144 rfl ?_
        refine r_iconst (v := nI 1) dX10_look_145 (by decide) ?_
        refine r_icmp_ne (tgt := 154) dX10_look_146 (by decide) (fun hz => absurd (show _ from rfl) hz) (fun _ => ?_)
        refine r_iload dX10_look_149 rfl ?_
        refine r_goto (tgt := 158) dX10_look_151 (by decide) ?_
        refine r_iload dX10_look_158 rfl ?_
        refine r_idiv dX10_look_160 (nI_ne0 (by omega) (by omega)) ?_
        rw [pk_div (by omega) (by omega) (by omega)]
        refine r_iret rfl dX10_look_161 ?_
        exact ⟨rfl, rfl, rfl, rfl, fun a ha => ⟨hfr.1 a (by omega) (by omega) (by omega) (by omega), rfl⟩, h01, hC1⟩
    · rw [r]
      by_cases q : (fsN H M un cs e).length = 0
      · rw [show lookA (fsN H M un cs e) h M 2 = 1 from by unfold lookA; rw [if_neg (by decide), if_pos q]]
        refine r_iload_n dX10_look_94 rfl ?_
        refine r_if_ne (tgt := 100) dX10_look_95 (by decide) (fun _ => ?_) (fun hz => absurd hz (show ¬ _ from (by decide)))
        refine r_aload_n dX10_look_100 rfl ?_
        refine r_getI dX10_look_101 fl_X10_413 rfl (kM_0 hM) ?_
        rw [(hfd hg).1]
        refine r_if_ne (tgt := 111) dX10_look_104 (by decide) (fun hz => absurd (show _ from (by rw [q]; rfl)) hz) (fun _ => ?_)
        refine r_iload_n dX10_look_107 rfl ?_
        refine r_iconst (v := nI 1) dX10_look_108 (by decide) ?_
        refine r_isub dX10_look_109 ?_
        rw [pk_sub (by decide)]
        refine r_iret rfl dX10_look_110 ?_
        exact ⟨rfl, rfl, rfl, rfl, fun a ha => ⟨hfr.1 a (by omega) (by omega) (by omega) (by omega), rfl⟩, h01, hC1⟩
      · have g3 : ¬ lkSq (fsN H M un cs e) h M = 0 := fun z => q (g2.mp z)
        have g4 : 0 < Nat.gcd (lkSq (fsN H M un cs e) h M) (fsN H M un cs e).length := Nat.gcd_pos_of_pos_right _ (by omega)
        have g5 : Nat.gcd (lkSq (fsN H M un cs e) h M) (fsN H M un cs e).length ≤ (fsN H M un cs e).length := Nat.gcd_le_right _ (by omega)
        rw [show lookA (fsN H M un cs e) h M 2 = ((fsN H M un cs e).length) / Nat.gcd (lkSq (fsN H M un cs e) h M) (fsN H M un cs e).length from by unfold lookA; rw [if_neg (by decide), if_neg q]; rfl]
        refine r_iload_n dX10_look_94 rfl ?_
        refine r_if_ne (tgt := 100) dX10_look_95 (by decide) (fun _ => ?_) (fun hz => absurd hz (show ¬ _ from (by decide)))
        refine r_aload_n dX10_look_100 rfl ?_
        refine r_getI dX10_look_101 fl_X10_413 rfl (kM_0 hM) ?_
        rw [(hfd hg).1]
        refine r_if_ne (tgt := 111) dX10_look_104 (by decide) (fun _ => ?_) (fun hz => absurd hz (show ¬ _ from (nI_ne0 (by omega) (by omega))))
        refine r_iload dX10_look_111 rfl ?_
        refine r_istore dX10_look_113 (by decide) ?_
        refine r_aload_n dX10_look_115 rfl ?_
        refine r_getI dX10_look_116 fl_X10_413 rfl (kM_0 hM) ?_
        rw [(hfd hg).1]
        refine r_istore dX10_look_119 (by decide) ?_
        refine w_X10_gcd m h 2 _ (lkSq (fsN H M un cs e) h M) (lkSq (fsN H M un cs e) h M) (fsN H M un cs e).length (fun z6 z7 => ?_) (fsN H M un cs e).length _ _ _ (Nat.le_refl _) (by omega) (by omega) rfl
        refine r_iload_n dX10_look_144 rfl ?_
        refine r_iconst (v := nI 1) dX10_look_145 (by decide) ?_
        refine r_icmp_ne (tgt := 154) dX10_look_146 (by decide) (fun _ => ?_) (fun hz => absurd hz (show ¬ _ from (by decide)))
        refine r_aload_n dX10_look_154 rfl ?_
        refine r_getI dX10_look_155 fl_X10_413 rfl (kM_0 hM) ?_
        rw [(hfd hg).1]
        refine r_iload dX10_look_158 rfl ?_
        refine r_idiv dX10_look_160 (nI_ne0 (by omega) (by omega)) ?_
        rw [pk_div (by omega) (by omega) (by omega)]
        refine r_iret rfl dX10_look_161 ?_
        exact ⟨rfl, rfl, rfl, rfl, fun a ha => ⟨hfr.1 a (by omega) (by omega) (by omega) (by omega), rfl⟩, h01, hC1⟩

theorem what_no {x : Int32} {b : Nat} (hb : b + 1 < 2 ^ 31) (h : (!decide (x < 0) && decide (x < nI (b + 1))) = false) : (!decide (x < nI 0) && !decide (nI b < x)) = false := by
  cases hq : (!decide (x < nI 0) && !decide (nI b < x)) with
  | false => rfl
  | true =>
    rw [Bool.and_eq_true, Bool.not_eq_true', Bool.not_eq_true', decide_eq_false_iff_not, decide_eq_false_iff_not] at hq
    rw [decide_eq_false (show ¬ x < 0 from hq.1), decide_eq_true (show x < nI (b + 1) from by
      have h2 := hq.2
      rw [Int32.lt_iff_toInt_lt, nI_toInt (by omega)] at h2
      rw [Int32.lt_iff_toInt_lt, nI_toInt hb]
      omega)] at h
    exact absurd h (by decide)
set_option maxHeartbeats 4000000 in
set_option maxRecDepth 100000 in
theorem q_look_no (m : Nat) (h : Nat) (y : Int32) {t : Nat} {T : Nat → Nat} {fp : Int32} {rr : Nat → Int32} {H M : Nat} {un : Bool} {cs : Nat → List Nat} {tx : Nat → List Int32} {e : Lf} {im : Option Lf} {wk : Option (List Nat)} {n : Nat} {kd : mK} {I : mI} {J : mJ} {P : mP} (hC : RR m kd I P t T fp rr H M un cs tx e im wk) (hz : okZ t T H M cs e) (hh : h < H) (hy : (!decide (y < 0) && decide (y < nI 3)) = false) : Ct yX10_look cX10_look 8 (some .int) 10 0 0 [.ref m, .int (nI h), .int y] n kd I J P (pQ m n kd I J P (some (.int (nI 0))) 1 (RX m t T fp rr H M un cs tx e im wk)) := by
  refine ct_of 5 (by decide +kernel) (Nat.le_of_ble_eq_true rfl) rfl ?_
  refine r_aload_n dX10_look_0 rfl ?_
  refine r_iconst (v := nI 0) dX10_look_1 (by decide) ?_
  refine r_putI dX10_look_2 fl_X10_193 rfl rfl (kM_0 hC.1) ?_
  refine q_th hC (fun I hC h0 => ?_)
  have hC0 := hC
  have hz0 := hz
  obtain ⟨hM, hT, hSt, hLf, hIm, hWk⟩ := hC
  obtain ⟨okt, oks, okl⟩ := hz
  have hH8 : H ≤ 8 := oks.2.1
  have hM20 : 2 ≤ M ∧ M ≤ 20 := oks.1
  have hH : I m 1 = nI H := hSt.1.1
  have hMo : I m 2 = nI M := hSt.1.2.1
  refine r_aload_n dX10_look_5 rfl ?_
  refine r_iload_n dX10_look_6 rfl ?_
  refine r_virtE (c_X10_isHouse m (nI h) hM h0) lk_X10_373 mc_X10_isHouse dX10_look_7 (kM_0 hM) (by decide) rfl rfl (Nat.le_of_ble_eq_true rfl) ?_
  rw [show (!decide (nI h < 0) && decide (nI h < I m 1)) = true from by rw [hH]; exact (isH_of hh (by omega)), thM_ok]
  refine r_if_eq (tgt := 27) dX10_look_10 (by decide) (fun hz => absurd hz (show ¬ _ from (by decide))) (fun _ => ?_)
  refine r_aload_n dX10_look_13 rfl ?_
  refine r_iload_n dX10_look_14 rfl ?_
  refine r_iconst (v := nI 0) dX10_look_15 (by decide) ?_
  refine r_iconst (v := nI 2) dX10_look_16 (by decide) ?_
  refine r_statE (c_X10_within (y) (nI 0) (nI 2)) lk_X10_369 mc_X10_within dX10_look_17 (by decide) rfl rfl (Nat.le_of_ble_eq_true rfl) ?_
  rw [show (!decide (y < nI 0) && !decide (nI 2 < y)) = false from what_no (by decide) hy]
  refine r_iconst (v := nI 1) dX10_look_20 (by decide) ?_
  refine r_virtE (c_X10_right m false (nI 1) hM h0 (by decide)) lk_X10_343 mc_X10_right dX10_look_21 (kM_0 hM) (by decide) rfl rfl (Nat.le_of_ble_eq_true rfl) ?_
  refine r_if_ne (tgt := 29) dX10_look_24 (by decide) (fun hz => absurd (show _ from rfl) hz) (fun _ => ?_)
  refine r_iconst (v := nI 0) dX10_look_27 (by decide) ?_
  refine r_iret rfl dX10_look_28 ?_
  exact pQ.th hC0 am_is.mk


/-! WALKS: the class, on any state -/
theorem gd_l {l : List Nat} {x j : Nat} (h : j < l.length) : (l ++ [x]).getD j 0 = l.getD j 0 := by
  rw [List.getD_eq_getElem?_getD, List.getD_eq_getElem?_getD, List.getElem?_append_left h]
theorem gd_r {l : List Nat} {x : Nat} : (l ++ [x]).getD l.length 0 = x := by
  rw [List.getD_eq_getElem?_getD, List.getElem?_append_right (Nat.le_refl _)]
  simp
theorem wkS.kp {kd : mK} {I : mI} {P : mP} {k z c cr : Nat} {g : Nat → Nat} {x y : Int32} (h : wkS kd I P k z c cr g) : wkS kd (va_up I k (va_up (va_up (I k) 5 x) 6 y)) P k z c cr g := by
  obtain ⟨hW, h3, hz, ⟨hz0, hz1, hz2⟩, e1, e2, hg, hc, hcr, hg20⟩ := h
  refine ⟨hW, h3, hz, ⟨hz0, hz1, hz2⟩, ?_, ?_, fun j hj => ?_, hc, hcr, hg20⟩
  · rw [am_up_s, am_up_n _ _ (by decide), am_up_n _ _ (by decide)]; exact e1
  · rw [am_up_s, am_up_n _ _ (by decide), am_up_n _ _ (by decide)]; exact e2
  · rw [am_up_n _ _ (by omega)]; exact hg j hj
theorem kX.wk {o b s f l : Nat} {kd : mK} {P P' : mP} (h1 : ∀ a, a ≠ o + 58 → P' a = P a) (h3 : ∀ k, k ≠ 3 → P' (o + 58) k = P (o + 58) k) (h : kX kd P o b s f l) : kX kd P' o b s f l := by
  simp (disch := omega) only [kX, kS, kL, kQ, kA, kG, kW, kRd, kD, kPg, h1, h3] at h ⊢
  exact h
set_option maxHeartbeats 4000000 in
set_option maxRecDepth 100000 in
theorem go_loop (k z w p cr : Nat) (I0 : mI) {post : am_Post} {n : Nat} {kd : mK} {J : mJ} {P : mP} (hW : kW kd P k) (hw : w < 2 ^ 21) (hl : (gls w 20).length ≤ 10) (hK : ∀ (I : mI) (z5 : Int32), (∀ a, a ≠ k → a ≠ k + 1 → I a = I0 a) → I k 1 = nI (gls w 20).length → (∀ j, j < (gls w 20).length → I (k + 1) j = nI ((gls w 20).getD j 0)) → Ru yX8_walkTo.cls cX8_walkTo 7 (some .int) yX8_walkTo.name 6 (post) 0 0 87 [some (.ref k), some (.int (nI w)), some (.int (nI p)), some (.int (nI cr)), some (.ref z), some (.int z5), none] [] n kd I J P) : ∀ (cnt q : Nat) (I : mI), q + cnt = 30 → (∀ a, a ≠ k → a ≠ k + 1 → I a = I0 a) → I k 1 = nI (gls w q).length → (∀ j, j < (gls w q).length → I (k + 1) j = nI ((gls w q).getD j 0)) → Ru yX8_walkTo.cls cX8_walkTo 7 (some .int) yX8_walkTo.name 6 (post) 0 0 35 [some (.ref k), some (.int (nI w)), some (.int (nI p)), some (.int (nI cr)), some (.ref z), some (.int (nI (q + 1))), none] [] n kd I J P
  | 0, q, I, hh, hf, h1, hg => by
    have eq : q = 30 := by omega
    subst eq
    have e2 := gls_hi (b := 20) hw 10
    rw [e2] at h1 hg
    refine r_iload dX8_walkTo_35 rfl ?_
    refine r_bipush (v := nI 31) dX8_walkTo_37 (by decide) ?_
    refine r_icmp_ge (tgt := 87) dX8_walkTo_39 (by decide) (fun _ => ?_) (fun hz => absurd (show _ from (by rw [nI_leI (by omega) (by omega)]; omega)) hz)
    exact hK I _ hf h1 hg
  | cnt + 1, q, I, hh, hf, h1, hg => by
    obtain ⟨w0, w1, w2, v0, v4⟩ := id hW
    have e3 : gls w 30 = gls w 20 := gls_hi (b := 20) hw 10
    have hm := gls_mono w q (30 - q)
    rw [show q + (30 - q) = 30 by omega, e3] at hm
    by_cases c10 : 10 ≤ (gls w q).length
    · have hs := gls_stop (w := w) (n := q) (30 - q) (by rw [show q + (30 - q) = 30 by omega, e3]; omega)
      rw [show q + (30 - q) = 30 by omega, e3] at hs
      rw [← hs] at h1 hg c10
      refine r_iload dX8_walkTo_35 rfl ?_
      refine r_bipush (v := nI 31) dX8_walkTo_37 (by decide) ?_
      refine r_icmp_ge (tgt := 87) dX8_walkTo_39 (by decide) (fun hz => absurd hz (show ¬ _ from (by rw [nI_leI (by omega) (by omega)]; omega))) (fun _ => ?_)
      refine r_aload_n dX8_walkTo_42 rfl ?_
      refine r_getI dX8_walkTo_43 fl_X8_15 rfl w0 ?_
      rw [h1]
      refine r_bipush (v := nI 10) dX8_walkTo_46 (by decide) ?_
      refine r_icmp_ge (tgt := 87) dX8_walkTo_48 (by decide) (fun _ => ?_) (fun hz => absurd (show _ from (by rw [nI_leI (by omega) (by omega)]; omega)) hz)
      exact hK I _ hf h1 hg
    · have hgs : gls w (q + 1) = if w.testBit (q + 1) = true then gls w q ++ [q + 1] else gls w q := rfl
      by_cases hb : w.testBit (q + 1) = true
      · rw [if_pos hb] at hgs
        refine r_iload dX8_walkTo_35 rfl ?_
        refine r_bipush (v := nI 31) dX8_walkTo_37 (by decide) ?_
        refine r_icmp_ge (tgt := 87) dX8_walkTo_39 (by decide) (fun hz => absurd hz (show ¬ _ from (by rw [nI_leI (by omega) (by omega)]; omega))) (fun _ => ?_)
        refine r_aload_n dX8_walkTo_42 rfl ?_
        refine r_getI dX8_walkTo_43 fl_X8_15 rfl w0 ?_
        rw [h1]
        refine r_bipush (v := nI 10) dX8_walkTo_46 (by decide) ?_
        refine r_icmp_ge (tgt := 87) dX8_walkTo_48 (by decide) (fun hz => absurd hz (show ¬ _ from (by rw [nI_leI (by omega) (by omega)]; omega))) (fun _ => ?_)
        refine r_iload_n dX8_walkTo_51 rfl ?_
        refine r_iload dX8_walkTo_52 rfl ?_
        refine r_ishr dX8_walkTo_54 ?_
        refine r_iconst (v := nI 1) dX8_walkTo_55 (by decide) ?_
        refine r_iand dX8_walkTo_56 ?_
        rw [b_ask _ (by omega), bt_nI _ (by omega)]
        rw [if_pos hb]
        refine r_if_eq (tgt := 81) dX8_walkTo_57 (by decide) (fun hz => absurd hz (show ¬ _ from (by decide))) (fun _ => ?_)
        refine r_aload_n dX8_walkTo_60 rfl ?_
        refine r_getR dX8_walkTo_61 fl_X8_9 rfl w0 v0 ?_
        refine r_aload_n dX8_walkTo_64 rfl ?_
        refine r_getI dX8_walkTo_65 fl_X8_15 rfl w0 ?_
        rw [h1]
        refine r_iload dX8_walkTo_68 rfl ?_
        refine r_iast dX8_walkTo_70 w1 (nI_in8 10 (by omega) (by decide)) (nI_clamp (by omega)) ?_
        refine r_aload_n dX8_walkTo_71 rfl ?_
        refine r_dup dX8_walkTo_72 rfl ?_
        refine r_getI dX8_walkTo_73 fl_X8_15 rfl w0 ?_
        rw [am_up_n _ _ (by omega), h1]
        refine r_iconst (v := nI 1) dX8_walkTo_76 (by decide) ?_
        refine r_iadd dX8_walkTo_77 ?_
        rw [nI_add]
        refine r_putI dX8_walkTo_78 fl_X8_15 rfl rfl w0 ?_
        rw [am_up_n _ _ (by omega)]
        refine r_iinc (v := nI (q + 1 + 1)) dX8_walkTo_81 rfl (nI_inc (q + 1)) ?_
        refine r_goto (tgt := 35) dX8_walkTo_84 (by decide) ?_
        refine go_loop k z w p cr I0 hW hw hl hK cnt (q + 1) _ (by omega) (fun a a1 a2 => ?_) ?_ (fun j hj => ?_)
        · rw [am_up_n _ _ a1, am_up_n _ _ a2]; exact hf a a1 a2
        · rw [am_up_s, am_up_s, hgs, List.length_append]; rfl
        · rw [am_up_n _ _ (by omega), am_up_s]
          rw [hgs] at hj ⊢
          rw [List.length_append] at hj
          by_cases ej : j = (gls w q).length
          · rw [ej, am_up_s, gd_r]
          · have hj2 : j < (gls w q).length := by simp only [List.length_cons, List.length_nil] at hj; omega
            rw [am_up_n _ _ ej, gd_l hj2]
            exact hg j hj2
      · rw [if_neg hb] at hgs
        refine r_iload dX8_walkTo_35 rfl ?_
        refine r_bipush (v := nI 31) dX8_walkTo_37 (by decide) ?_
        refine r_icmp_ge (tgt := 87) dX8_walkTo_39 (by decide) (fun hz => absurd hz (show ¬ _ from (by rw [nI_leI (by omega) (by omega)]; omega))) (fun _ => ?_)
        refine r_aload_n dX8_walkTo_42 rfl ?_
        refine r_getI dX8_walkTo_43 fl_X8_15 rfl w0 ?_
        rw [h1]
        refine r_bipush (v := nI 10) dX8_walkTo_46 (by decide) ?_
        refine r_icmp_ge (tgt := 87) dX8_walkTo_48 (by decide) (fun hz => absurd hz (show ¬ _ from (by rw [nI_leI (by omega) (by omega)]; omega))) (fun _ => ?_)
        refine r_iload_n dX8_walkTo_51 rfl ?_
        refine r_iload dX8_walkTo_52 rfl ?_
        refine r_ishr dX8_walkTo_54 ?_
        refine r_iconst (v := nI 1) dX8_walkTo_55 (by decide) ?_
        refine r_iand dX8_walkTo_56 ?_
        rw [b_ask _ (by omega), bt_nI _ (by omega)]
        rw [if_neg hb]
        refine r_if_eq (tgt := 81) dX8_walkTo_57 (by decide) (fun _ => ?_) (fun hz => absurd (show _ from rfl) hz)
        refine r_iinc (v := nI (q + 1 + 1)) dX8_walkTo_81 rfl (nI_inc (q + 1)) ?_
        refine r_goto (tgt := 35) dX8_walkTo_84 (by decide) ?_
        exact go_loop k z w p cr I0 hW hw hl hK cnt (q + 1) I (by omega) hf (by rw [hgs]; exact h1) (by rw [hgs]; exact hg)

set_option maxHeartbeats 4000000 in
set_option maxRecDepth 100000 in
theorem c_wt_sp (k z w p cr : Nat) {n : Nat} {kd : mK} {I : mI} {J : mJ} {P : mP} (hW : kW kd P k) (hz : kd z = some (1, 10240)) (hzk : z ≠ k ∧ z ≠ k + 1 ∧ z ≠ k + 2) (hz9 : z < 1000000) (hw : w < 2 ^ 21) (hw0 : w.testBit 0 = false) (hp : p ≤ 20) (hcr : cr ≤ 9) (hl : 10 < (gls w 20).length) : Ct yX8_walkTo cX8_walkTo 7 (some .int) 6 0 0 [.ref k, .int (nI w), .int (nI p), .int (nI cr), .ref z] n kd I J P (am_is (some (.int (-2))) n kd I J P) := by
  have hlen : pcF (nI w) 21 = (gls w 20).length := (gls_len hw0 20 (by decide)).symm
  have hle := pcF_le (nI w) 21
  refine ct_of 2 (by decide +kernel) (Nat.le_of_ble_eq_true rfl) rfl ?_
  refine r_iload_n dX8_walkTo_0 rfl ?_
  refine r_statE (c_J6_bitCount_0f7a4 (nI w)) lk_X8_35 mc_J6_bitCount_0f7a4 dX8_walkTo_1 (by decide) rfl rfl (Nat.le_of_ble_eq_true rfl) ?_
  rw [bc_21 hw, hlen]
  refine r_bipush (v := nI 10) dX8_walkTo_4 (by decide) ?_
  refine r_icmp_gt (tgt := 18) dX8_walkTo_6 (by decide) (fun _ => ?_) (fun hz => absurd (show _ from (by rw [nI_ltI (by omega) (by omega)]; omega)) hz)
  refine r_bipush (v := -2) dX8_walkTo_18 (by decide) ?_
  refine r_iret rfl dX8_walkTo_20 ?_
  exact am_is.mk

set_option maxHeartbeats 4000000 in
set_option maxRecDepth 100000 in
theorem c_wt (k z w p cr : Nat) {n : Nat} {kd : mK} {I : mI} {J : mJ} {P : mP} (hW : kW kd P k) (hz : kd z = some (1, 10240)) (hzk : z ≠ k ∧ z ≠ k + 1 ∧ z ≠ k + 2) (hz9 : z < 1000000) (hw : w < 2 ^ 21) (hw0 : w.testBit 0 = false) (hp : p ≤ 20) (hcr : cr ≤ 9) (hl : (gls w 20).length ≤ 10) : Ct yX8_walkTo cX8_walkTo 7 (some .int) 6 0 0 [.ref k, .int (nI w), .int (nI p), .int (nI cr), .ref z] n kd I J P (fun y n' kd' I' J' P' => y = .inl (some (.int (nI (Lw (gN (gls w 20)) cr (gls w 20).length p 0)))) ∧ n' = n ∧ kd' = kd ∧ J' = J ∧ P' = va_up P k (va_up (P k) 3 (some z)) ∧ (∀ a, a ≠ k → a ≠ k + 1 → a ≠ k + 2 → a ≠ z → I' a = I a) ∧ I' k 5 = nI (gls w 20).length ∧ I' k 6 = nI 1 ∧ ∀ j, j < (gls w 20).length → I' (k + 2) j = nI ((wkL (gN (gls w 20)) cr (gls w 20).length (gls w 20).length p 0).getD j 0)) := by
  have hlen : pcF (nI w) 21 = (gls w 20).length := (gls_len hw0 20 (by decide)).symm
  have hle := pcF_le (nI w) 21
  obtain ⟨w0, w1, w2, v0, v4⟩ := id hW
  have hW1 : kW kd (va_up P k (va_up (P k) 3 (some z))) k := ⟨w0, w1, w2, by rw [am_up_s, am_up_n _ _ (by decide)]; exact v0, by rw [am_up_s, am_up_n _ _ (by decide)]; exact v4⟩
  have hg20 : ∀ j, j < (gls w 20).length → gN (gls w 20) j ≤ 20 := fun j _ => gN_le (fun v hv => (gls_mem 20 hv).2) j
  refine ct_of 2 (by decide +kernel) (Nat.le_of_ble_eq_true rfl) rfl ?_
  refine r_iload_n dX8_walkTo_0 rfl ?_
  refine r_statE (c_J6_bitCount_0f7a4 (nI w)) lk_X8_35 mc_J6_bitCount_0f7a4 dX8_walkTo_1 (by decide) rfl rfl (Nat.le_of_ble_eq_true rfl) ?_
  rw [bc_21 hw, hlen]
  refine r_bipush (v := nI 10) dX8_walkTo_4 (by decide) ?_
  refine r_icmp_gt (tgt := 18) dX8_walkTo_6 (by decide) (fun hz => absurd hz (show ¬ _ from (by rw [nI_ltI (by omega) (by omega)]; omega))) (fun _ => ?_)
  refine r_aload dX8_walkTo_9 rfl ?_
  refine r_alen dX8_walkTo_11 hz (by decide) ?_
  refine r_sipush (v := nI 10240) dX8_walkTo_12 (by decide) ?_
  refine r_icmp_ge (tgt := 21) dX8_walkTo_15 (by decide) (fun _ => ?_) (fun hz => absurd (show _ from (by decide)) hz)
  refine r_aload_n dX8_walkTo_21 rfl ?_
  refine r_aload dX8_walkTo_22 rfl ?_
  refine r_putR dX8_walkTo_24 fl_X8_22 (Or.inl rfl) (by decide) w0 hz9 ?_
  refine r_aload_n dX8_walkTo_27 rfl ?_
  refine r_iconst (v := nI 0) dX8_walkTo_28 (by decide) ?_
  refine r_putI dX8_walkTo_29 fl_X8_15 rfl rfl w0 ?_
  refine r_iconst (v := nI 1) dX8_walkTo_32 (by decide) ?_
  refine r_istore dX8_walkTo_33 (by decide) ?_
  refine go_loop k z w p cr I hW1 hw hl ?_ 30 0 _ (by omega) (fun a a1 a2 => am_up_n _ _ a1) (by rw [am_up_s, am_up_s]; rfl) (fun j hj => absurd hj (Nat.not_lt_zero _))
  intro I1 z5 hf h1 hg
  refine r_aload_n dX8_walkTo_87 rfl ?_
  refine r_iload_n dX8_walkTo_88 rfl ?_
  refine r_putI dX8_walkTo_89 fl_X8_19 rfl rfl w0 ?_
  refine r_iconst (v := nI 1) dX8_walkTo_92 (by decide) ?_
  refine r_aload_n dX8_walkTo_93 rfl ?_
  refine r_getI dX8_walkTo_94 fl_X8_15 rfl w0 ?_
  rw [am_up_s, am_up_n _ _ (by decide), h1]
  refine r_ishl dX8_walkTo_97 ?_
  rw [sh1_10 _ hl]
  refine r_iconst (v := nI 1) dX8_walkTo_98 (by decide) ?_
  refine r_isub dX8_walkTo_99 ?_
  rw [pk_sub (Nat.two_pow_pos _)]
  refine r_istore dX8_walkTo_100 (by decide) ?_
  have hS : wkS kd (va_up I1 k (va_up (I1 k) 2 (nI cr))) (va_up P k (va_up (P k) 3 (some z))) k z (gls w 20).length cr (gN (gls w 20)) := ⟨hW1, by rw [am_up_s, am_up_s], hz, hzk, by rw [am_up_s, am_up_n _ _ (by decide)]; exact h1, by rw [am_up_s, am_up_s], fun j hj => by rw [am_up_n _ _ (by omega)]; exact hg j hj, hl, hcr, hg20⟩
  have h2p := Nat.two_pow_pos (gls w 20).length
  have hlp := fun post hK => tb_out (n := n) (J := J) (post := post) k z (gls w 20).length cr (gN (gls w 20)) w p hS (2 ^ (gls w 20).length - 1) none (va_up I1 k (va_up (I1 k) 2 (nI cr)) z) (by omega) (fun E x a b => by omega) hK
  rw [am_up_id] at hlp
  refine hlp _ (fun z6 A hA => ?_)
  have hSA := hS.up A
  have hTA : KT (gN (gls w 20)) cr (gls w 20).length 0 ((va_up (va_up I1 k (va_up (I1 k) 2 (nI cr))) z A) z) := by rw [am_up_s]; exact hA
  have hkr := c_keepRow (n := n) (J := J) k z (gls w 20).length cr (gN (gls w 20)) p hSA hTA hp
  refine r_aload_n dX8_walkTo_167 rfl ?_
  refine r_iload_n dX8_walkTo_168 rfl ?_
  refine r_virt (kc2 := 0) (ks2 := 0) hkr lk_X8_45 mc_X8_keepRow dX8_walkTo_169 w0 (by decide) rfl rfl (Nat.le_of_ble_eq_true rfl) (by decide) (by decide) (fun _ _ _ _ _ _ hx => by obtain ⟨_, _, hx⟩ := hx; exact nomatch hx.1) ?_
  rintro v2 n2 kd2 I2 J2 P2 ⟨R, hR, h02, rfl, rfl, rfl, rfl, rfl⟩
  cases h02
  simp only [Option.toList, List.nil_append]
  have hSR := (hSA.row R).kp (x := nI (gls w 20).length) (y := nI 1)
  rw [am_up_n _ _ (by omega : k ≠ k + 2)] at hSR
  have hTR : KT (gN (gls w 20)) cr (gls w 20).length 0 ((va_up (va_up (va_up (va_up I1 k (va_up (I1 k) 2 (nI cr))) z A) (k + 2) R) k (va_up (va_up ((va_up (va_up I1 k (va_up (I1 k) 2 (nI cr))) z A) k) 5 (nI (gls w 20).length)) 6 (nI 1))) z) := by rw [am_up_n _ _ hzk.1, am_up_n _ _ hzk.2.2]; exact hTA
  refine r_aload_n dX8_walkTo_172 rfl ?_
  refine r_iload_n dX8_walkTo_173 rfl ?_
  refine r_iconst (v := nI 0) dX8_walkTo_174 (by decide) ?_
  refine r_virtE (c_sf k z _ cr _ p 0 hSR hTR hp h2p) lk_X8_41 mc_X8_shortestFrom dX8_walkTo_175 w0 (by decide) rfl rfl (Nat.le_of_ble_eq_true rfl) ?_
  refine r_iret rfl dX8_walkTo_178 ?_
  refine ⟨rfl, rfl, rfl, rfl, rfl, fun a a1 a2 a3 a4 => ?_, ?_, ?_, fun j hj => ?_⟩
  · rw [am_up_n _ _ a1, am_up_n _ _ a3, am_up_n _ _ a4, am_up_n _ _ a1]; exact hf a a1 a2
  · rw [am_up_s, am_up_n _ _ (by decide), am_up_s]
  · rw [am_up_s, am_up_s]
  · rw [am_up_n _ _ (by omega), am_up_s]; exact hR j hj


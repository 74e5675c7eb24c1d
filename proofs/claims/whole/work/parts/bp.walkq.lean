/-! WALKS: the reference's public method -/
theorem RR.wk {m t : Nat} {kd : mK} {I I1 : mI} {P : mP} {T : Nat → Nat} {fp : Int32} {rr : Nat → Int32} {H M : Nat} {un : Bool} {cs : Nat → List Nat} {tx : Nat → List Int32} {e : Lf} {im : Option Lf} {wk : Option (List Nat)} {L : List Nat} (hC : RR m kd I P t T fp rr H M un cs tx e im wk) (hI : ∀ a, m < a → a ≤ m + 55 → (a < m + 36 ∨ m + 38 < a) → I1 a = I a) (hj : ∀ j, j ≠ 73 → j ≠ 74 → I1 m j = I m j) (h74 : I1 m 74 = nI L.length) (hr : ∀ j, j < L.length → I1 (m + 37) j = nI (L.getD j 0)) : RR m kd I1 P t T fp rr H M un cs tx e im (some L) := by
  obtain ⟨hM, h1, h2, h3, h4, h5⟩ := hC
  refine ⟨hM, h1.cg (hj _ (by decide) (by decide)) (hj _ (by decide) (by decide)) (hI _ (by omega) (by omega) (by omega)) (hI _ (by omega) (by omega) (by omega)), h2.cg (fun j hx => hj j (by omega) (by omega)) (fun a x => hI a (by omega) (by omega) (by omega)), rLx.cg (hI _ (by omega) (by omega) (by omega)) (hI _ (by omega) (by omega) (by omega)) (hI _ (by omega) (by omega) (by omega)) (hI _ (by omega) (by omega) (by omega)) (hI _ (by omega) (by omega) (by omega)) (hj _ (by decide) (by decide)) (hj _ (by decide) (by decide)) h3, h4.cg (hj _ (by decide) (by decide)) (hj _ (by decide) (by decide)) (hj _ (by decide) (by decide)) (fun a x y => hI a (by omega) (by omega) (by omega)), h74, hr⟩
set_option maxHeartbeats 4000000 in
set_option maxRecDepth 100000 in
theorem rwk_lp (m S p cr : Nat) {post : am_Post} {H M : Nat} {un : Bool} {cs : Nat → List Nat} {e : Lf} {n : Nat} {kd : mK} {I : mI} {J : mJ} {P : mP} (hM : kM kd P m) (hH8 : H ≤ 8) (hM20 : 2 ≤ M ∧ M ≤ 20) (hH : I m 1 = nI H) (hg : gdN H M un cs e = true) (hfd : gdN H M un cs e = true → I m 52 = nI (fsN H M un cs e).length ∧ I m 53 = nI (zN H M un cs e).1 ∧ ∀ i h, i < (fsN H M un cs e).length → h < H → I (m + 27) (8 * i + h) = nI (nmF (fsN H M un cs e) i h)) (hl : (fsN H M un cs e).length ≤ 1000) (hK : Ru yX10_walk.cls cX10_walk 10 (some .int) yX10_walk.name 10 (post) 0 0 112 [some (.ref m), some (.int (nI S)), some (.int (nI p)), some (.int (nI cr)), some (.int (nI (woN (fsN H M un cs e) S H))), some (.int (nI H)), none, none, none, none] [] n kd I J P) : ∀ (cnt h : Nat), h + cnt = H → Ru yX10_walk.cls cX10_walk 10 (some .int) yX10_walk.name 10 (post) 0 0 72 [some (.ref m), some (.int (nI S)), some (.int (nI p)), some (.int (nI cr)), some (.int (nI (woN (fsN H M un cs e) S h))), some (.int (nI h)), none, none, none, none] [] n kd I J P
  | 0, h, hh => by
    have eh : h = H := by omega
    rw [eh]
    refine r_iload dX10_walk_72 rfl ?_
    refine r_aload_n dX10_walk_74 rfl ?_
    refine r_getI dX10_walk_75 fl_X10_350 rfl (kM_0 hM) ?_
    rw [hH]
    refine r_icmp_ge (tgt := 112) dX10_walk_78 (by decide) (fun _ => ?_) (fun hz => absurd (show _ from (by rw [nI_leI (by omega) (by omega)]; omega)) hz)
    exact hK
  | cnt + 1, h, hh => by
    have hn := rwk_lp (n := n) (J := J) m S p cr hM hH8 hM20 hH hg hfd hl hK cnt (h + 1) (by omega)
    rw [show woN (fsN H M un cs e) S (h + 1) = if S.testBit h = true then woN (fsN H M un cs e) S h ||| mayN (fsN H M un cs e) h else woN (fsN H M un cs e) S h from rfl] at hn
    by_cases q : S.testBit h = true
    · rw [if_pos q] at hn
      refine r_iload dX10_walk_72 rfl ?_
      refine r_aload_n dX10_walk_74 rfl ?_
      refine r_getI dX10_walk_75 fl_X10_350 rfl (kM_0 hM) ?_
      rw [hH]
      refine r_icmp_ge (tgt := 112) dX10_walk_78 (by decide) (fun hz => absurd hz (show ¬ _ from (by rw [nI_leI (by omega) (by omega)]; omega))) (fun _ => ?_)
      refine r_iload dX10_walk_81 rfl ?_
      refine r_iload_n dX10_walk_83 rfl ?_
      refine r_iload dX10_walk_84 rfl ?_
      refine r_ishr dX10_walk_86 ?_
      refine r_iconst (v := nI 1) dX10_walk_87 (by decide) ?_
      refine r_iand dX10_walk_88 ?_
      rw [b_ask _ (by omega), bt_nI _ (by omega)]
      rw [if_pos q]
      refine r_iconst (v := nI 1) dX10_walk_89 (by decide) ?_
      refine r_icmp_ne (tgt := 102) dX10_walk_90 (by decide) (fun hz => absurd (show _ from rfl) hz) (fun _ => ?_)
      refine r_aload_n dX10_walk_93 rfl ?_
      refine r_iload dX10_walk_94 rfl ?_
      refine r_virtE (c_X10_mayOf m (h) (fsN H M un cs e).length hM (by omega) (hfd hg).1 hl) lk_X10_442 mc_X10_mayOf dX10_walk_96 (kM_0 hM) (by decide) rfl rfl (Nat.le_of_ble_eq_true rfl) ?_
      rw [my_of hM20.2 (show h < H by omega) (fsN H M un cs e) _ (zR_rng hH8 hM20.2).2 (fun i hi => (hfd hg).2.2 i _ hi (show h < H by omega))]
      refine r_goto (tgt := 103) dX10_walk_99 (by decide) ?_
      refine r_ior dX10_walk_103 ?_
      rw [or_nI]
      refine r_istore dX10_walk_104 (by decide) ?_
      refine r_iinc (v := nI (h + 1)) dX10_walk_106 rfl (nI_inc h) ?_
      refine r_goto (tgt := 72) dX10_walk_109 (by decide) ?_
      exact hn
    · rw [if_neg q] at hn
      refine r_iload dX10_walk_72 rfl ?_
      refine r_aload_n dX10_walk_74 rfl ?_
      refine r_getI dX10_walk_75 fl_X10_350 rfl (kM_0 hM) ?_
      rw [hH]
      refine r_icmp_ge (tgt := 112) dX10_walk_78 (by decide) (fun hz => absurd hz (show ¬ _ from (by rw [nI_leI (by omega) (by omega)]; omega))) (fun _ => ?_)
      refine r_iload dX10_walk_81 rfl ?_
      refine r_iload_n dX10_walk_83 rfl ?_
      refine r_iload dX10_walk_84 rfl ?_
      refine r_ishr dX10_walk_86 ?_
      refine r_iconst (v := nI 1) dX10_walk_87 (by decide) ?_
      refine r_iand dX10_walk_88 ?_
      rw [b_ask _ (by omega), bt_nI _ (by omega)]
      rw [if_neg q]
      refine r_iconst (v := nI 1) dX10_walk_89 (by decide) ?_
      refine r_icmp_ne (tgt := 102) dX10_walk_90 (by decide) (fun _ => ?_) (fun hz => absurd hz (show ¬ _ from (by decide)))
      refine r_iconst (v := nI 0) dX10_walk_102 (by decide) ?_
      refine r_ior dX10_walk_103 ?_
      rw [or_nI]
      rw [Nat.or_zero]
      refine r_istore dX10_walk_104 (by decide) ?_
      refine r_iinc (v := nI (h + 1)) dX10_walk_106 rfl (nI_inc h) ?_
      refine r_goto (tgt := 72) dX10_walk_109 (by decide) ?_
      exact hn

set_option maxHeartbeats 4000000 in
set_option maxRecDepth 100000 in
theorem rgo_loop (m S p cr w M : Nat) (I0 : mI) {post : am_Post} {n : Nat} {kd : mK} {J : mJ} {P : mP} (hM : kM kd P m) (hMo : I0 m 2 = nI M) (hM20 : M ≤ 20) (hw : w < 2 ^ (M + 1)) (hl : (gls w 20).length ≤ 10) (hK : ∀ (I : mI) (z5 : Int32), (∀ a, a ≠ m → a ≠ m + 36 → I a = I0 a) → (∀ j, j ≠ 73 → I m j = I0 m j) → I m 73 = nI (gls w 20).length → (∀ j, j < (gls w 20).length → I (m + 36) j = nI ((gls w 20).getD j 0)) → Ru yX10_walk.cls cX10_walk 10 (some .int) yX10_walk.name 10 (post) 0 0 182 [some (.ref m), some (.int (nI S)), some (.int (nI p)), some (.int (nI cr)), some (.int (nI w)), some (.int z5), none, none, none, none] [] n kd I J P) : ∀ (cnt q : Nat) (I : mI), q + cnt = M → (∀ a, a ≠ m → a ≠ m + 36 → I a = I0 a) → (∀ j, j ≠ 73 → I m j = I0 m j) → I m 73 = nI (gls w q).length → (∀ j, j < (gls w q).length → I (m + 36) j = nI ((gls w q).getD j 0)) → Ru yX10_walk.cls cX10_walk 10 (some .int) yX10_walk.name 10 (post) 0 0 133 [some (.ref m), some (.int (nI S)), some (.int (nI p)), some (.int (nI cr)), some (.int (nI w)), some (.int (nI (q + 1))), none, none, none, none] [] n kd I J P
  | 0, q, I, hh, hf, hf2, h1, hg => by
    have eq : q = M := by omega
    have e2 := gls_hi (b := M) hw (20 - M)
    rw [show M + (20 - M) = 20 by omega] at e2
    rw [eq, ← e2] at h1 hg
    refine r_iload dX10_walk_133 rfl ?_
    refine r_aload_n dX10_walk_135 rfl ?_
    refine r_getI dX10_walk_136 fl_X10_7 rfl (kM_0 hM) ?_
    rw [hf2 2 (by decide), hMo]
    refine r_icmp_gt (tgt := 182) dX10_walk_139 (by decide) (fun _ => ?_) (fun hz => absurd (show _ from (by rw [nI_ltI (by omega) (by omega)]; omega)) hz)
    exact hK I _ hf hf2 h1 hg
  | cnt + 1, q, I, hh, hf, hf2, h1, hg => by
    have hm := gls_mono w (q + 1) (20 - (q + 1))
    rw [show q + 1 + (20 - (q + 1)) = 20 by omega] at hm
    have hgs : gls w (q + 1) = if w.testBit (q + 1) = true then gls w q ++ [q + 1] else gls w q := rfl
    by_cases hb : w.testBit (q + 1) = true
    · rw [if_pos hb] at hgs
      have hlq : (gls w q).length < 10 := by
        rw [hgs, List.length_append] at hm
        simp only [List.length_cons, List.length_nil] at hm
        omega
      refine r_iload dX10_walk_133 rfl ?_
      refine r_aload_n dX10_walk_135 rfl ?_
      refine r_getI dX10_walk_136 fl_X10_7 rfl (kM_0 hM) ?_
      rw [hf2 2 (by decide), hMo]
      refine r_icmp_gt (tgt := 182) dX10_walk_139 (by decide) (fun hz => absurd hz (show ¬ _ from (by rw [nI_ltI (by omega) (by omega)]; omega))) (fun _ => ?_)
      refine r_iload dX10_walk_142 rfl ?_
      refine r_iload dX10_walk_144 rfl ?_
      refine r_ishr dX10_walk_146 ?_
      refine r_iconst (v := nI 1) dX10_walk_147 (by decide) ?_
      refine r_iand dX10_walk_148 ?_
      rw [b_ask _ (by omega), bt_nI _ (by omega)]
      rw [if_pos hb]
      refine r_if_ne (tgt := 155) dX10_walk_149 (by decide) (fun _ => ?_) (fun hz => absurd hz (show ¬ _ from (by decide)))
      refine r_aload_n dX10_walk_155 rfl ?_
      refine r_getR dX10_walk_156 fl_X10_130 rfl (kM_0 hM) (pM_70 hM) ?_
      refine r_aload_n dX10_walk_159 rfl ?_
      refine r_getI dX10_walk_160 fl_X10_487 rfl (kM_0 hM) ?_
      rw [h1]
      refine r_iload dX10_walk_163 rfl ?_
      refine r_iast dX10_walk_165 (aM_70 hM) (nI_in8 10 (by omega) (by decide)) (nI_clamp (by omega)) ?_
      refine r_aload_n dX10_walk_166 rfl ?_
      refine r_dup dX10_walk_167 rfl ?_
      refine r_getI dX10_walk_168 fl_X10_487 rfl (kM_0 hM) ?_
      rw [am_up_n _ _ (by omega), h1]
      refine r_iconst (v := nI 1) dX10_walk_171 (by decide) ?_
      refine r_iadd dX10_walk_172 ?_
      rw [nI_add]
      refine r_putI dX10_walk_173 fl_X10_487 rfl rfl (kM_0 hM) ?_
      rw [am_up_n _ _ (by omega)]
      refine r_iinc (v := nI (q + 1 + 1)) dX10_walk_176 rfl (nI_inc (q + 1)) ?_
      refine r_goto (tgt := 133) dX10_walk_179 (by decide) ?_
      refine rgo_loop m S p cr w M I0 hM hMo hM20 hw hl hK cnt (q + 1) _ (by omega) (fun a a1 a2 => ?_) (fun j hj => ?_) ?_ (fun j hj => ?_)
      · rw [am_up_n _ _ a1, am_up_n _ _ a2]; exact hf a a1 a2
      · rw [am_up_s, am_up_n _ _ hj]; exact hf2 j hj
      · rw [am_up_s, am_up_s, hgs, List.length_append]; rfl
      · rw [am_up_n _ _ (by omega), am_up_s]
        rw [hgs] at hj ⊢
        rw [List.length_append] at hj
        by_cases ej : j = (gls w q).length
        · rw [ej, am_up_s, gd_r]
        · have hj2 : j < (gls w q).length := by simp only [List.length_cons, List.length_nil] at hj; omega
          rw [am_up_n _ _ ej, gd_l hj2]
          exact hg j hj2
    · rw [if_neg hb] at hgs
      refine r_iload dX10_walk_133 rfl ?_
      refine r_aload_n dX10_walk_135 rfl ?_
      refine r_getI dX10_walk_136 fl_X10_7 rfl (kM_0 hM) ?_
      rw [hf2 2 (by decide), hMo]
      refine r_icmp_gt (tgt := 182) dX10_walk_139 (by decide) (fun hz => absurd hz (show ¬ _ from (by rw [nI_ltI (by omega) (by omega)]; omega))) (fun _ => ?_)
      refine r_iload dX10_walk_142 rfl ?_
      refine r_iload dX10_walk_144 rfl ?_
      refine r_ishr dX10_walk_146 ?_
      refine r_iconst (v := nI 1) dX10_walk_147 (by decide) ?_
      refine r_iand dX10_walk_148 ?_
      rw [b_ask _ (by omega), bt_nI _ (by omega)]
      rw [if_neg hb]
      refine r_if_ne (tgt := 155) dX10_walk_149 (by decide) (fun hz => absurd (show _ from rfl) hz) (fun _ => ?_)
      refine r_goto (tgt := 176) dX10_walk_152 (by decide) ?_
      refine r_iinc (v := nI (q + 1 + 1)) dX10_walk_176 rfl (nI_inc (q + 1)) ?_
      refine r_goto (tgt := 133) dX10_walk_179 (by decide) ?_
      exact rgo_loop m S p cr w M I0 hM hMo hM20 hw hl hK cnt (q + 1) I (by omega) hf hf2 (by rw [hgs]; exact h1) (by rw [hgs]; exact hg)

set_option maxHeartbeats 4000000 in
set_option maxRecDepth 100000 in
theorem q_walk_sp (m : Nat) (S p cr : Nat) {t : Nat} {T : Nat → Nat} {fp : Int32} {rr : Nat → Int32} {H M : Nat} {un : Bool} {cs : Nat → List Nat} {tx : Nat → List Int32} {e : Lf} {im : Option Lf} {wk : Option (List Nat)} {n : Nat} {kd : mK} {I : mI} {J : mJ} {P : mP} (hC : RR m kd I P t T fp rr H M un cs tx e im wk) (hz : okZ t T H M cs e) (hS2 : S < 2 ^ H) (hp1 : 1 ≤ p) (hp : p ≤ M) (hcr : cr ≤ 9) (hg : gdN H M un cs e = false) : Ct yX10_walk cX10_walk 10 (some .int) 10 0 0 [.ref m, .int (nI S), .int (nI p), .int (nI cr)] n kd I J P (pQ m n kd I J P (some (.int (-2))) 0 (RX m t T fp rr H M un cs tx e im wk)) := by
  refine ct_of 6 (by decide +kernel) (Nat.le_of_ble_eq_true rfl) rfl ?_
  refine r_aload_n dX10_walk_0 rfl ?_
  refine r_iconst (v := nI 0) dX10_walk_1 (by decide) ?_
  refine r_putI dX10_walk_2 fl_X10_193 rfl rfl (kM_0 hC.1) ?_
  refine q_th hC (fun I hC h0 => ?_)
  have hC0 := hC
  have hz0 := hz
  obtain ⟨hM, hT, hSt, hLf, hIm, hWk⟩ := hC
  obtain ⟨okt, oks, okl⟩ := hz
  have hH8 : H ≤ 8 := oks.2.1
  have hM20 : 2 ≤ M ∧ M ≤ 20 := oks.1
  have hH : I m 1 = nI H := hSt.1.1
  have hMo : I m 2 = nI M := hSt.1.2.1
  have p8 := pw8 hH8
  refine r_aload_n dX10_walk_5 rfl ?_
  refine r_iload_n dX10_walk_6 rfl ?_
  refine r_if_lt (tgt := 46) dX10_walk_7 (by decide) (fun hz => absurd hz (show ¬ _ from (z_nlt (by omega)))) (fun _ => ?_)
  refine r_iload_n dX10_walk_10 rfl ?_
  refine r_iconst (v := nI 1) dX10_walk_11 (by decide) ?_
  refine r_aload_n dX10_walk_12 rfl ?_
  refine r_getI dX10_walk_13 fl_X10_350 rfl (kM_0 hM) ?_
  rw [hH]
  refine r_ishl dX10_walk_16 ?_
  rw [sh1_8 H hH8]
  refine r_icmp_ge (tgt := 46) dX10_walk_17 (by decide) (fun hz => absurd hz (show ¬ _ from (by rw [nI_leI (by omega) (by omega)]; omega))) (fun _ => ?_)
  refine r_iload_n dX10_walk_20 rfl ?_
  refine r_iconst (v := nI 1) dX10_walk_21 (by decide) ?_
  refine r_aload_n dX10_walk_22 rfl ?_
  refine r_getI dX10_walk_23 fl_X10_7 rfl (kM_0 hM) ?_
  rw [hMo]
  refine r_statE (c_X10_within (nI p) (nI 1) (nI M)) lk_X10_369 mc_X10_within dX10_walk_26 (by decide) rfl rfl (Nat.le_of_ble_eq_true rfl) ?_
  rw [show (!decide (nI p < nI 1) && !decide (nI M < nI p)) = true from wi_of hp1 hp (by omega)]
  refine r_if_eq (tgt := 46) dX10_walk_29 (by decide) (fun hz => absurd hz (show ¬ _ from (by decide))) (fun _ => ?_)
  refine r_iload_n dX10_walk_32 rfl ?_
  refine r_iconst (v := nI 0) dX10_walk_33 (by decide) ?_
  refine r_bipush (v := nI 9) dX10_walk_34 (by decide) ?_
  refine r_statE (c_X10_within (nI cr) (nI 0) (nI 9)) lk_X10_369 mc_X10_within dX10_walk_36 (by decide) rfl rfl (Nat.le_of_ble_eq_true rfl) ?_
  rw [show (!decide (nI cr < nI 0) && !decide (nI 9 < nI cr)) = true from wi_of (Nat.zero_le _) hcr (by decide)]
  refine r_if_eq (tgt := 46) dX10_walk_39 (by decide) (fun hz => absurd hz (show ¬ _ from (by decide))) (fun _ => ?_)
  refine r_iconst (v := nI 1) dX10_walk_42 (by decide) ?_
  refine r_goto (tgt := 47) dX10_walk_43 (by decide) ?_
  refine r_iconst (v := nI 1) dX10_walk_47 (by decide) ?_
  refine r_virtE (c_X10_right m true (nI 1) hM h0 (by decide)) lk_X10_343 mc_X10_right dX10_walk_48 (kM_0 hM) (by decide) rfl rfl (Nat.le_of_ble_eq_true rfl) ?_
  rw [thM_ok]
  refine r_if_ne (tgt := 56) dX10_walk_51 (by decide) (fun _ => ?_) (fun hz => absurd hz (show ¬ _ from (by decide)))
  refine r_aload_n dX10_walk_56 rfl ?_
  refine r_virt (kc2 := 0) (ks2 := 0) (q_seeksAll m hC0 hz0) lk_X10_436 mc_X10_seeksAll dX10_walk_57 (kM_0 hM) (by decide) rfl rfl (Nat.le_of_ble_eq_true rfl) (by decide) (by decide) (fun _ _ _ _ _ _ h => nomatch h.1) ?_
  rintro v1 n1 kd1 I1 J1 P1 ⟨h00, rfl, rfl, rfl, rfl, hfr, hfd⟩
  cases h00
  simp only [Option.toList, List.nil_append, List.cons_append]
  have hC1 := RR.rf hfr hC0
  have h01 : I1 m 0 = 0 := by rw [hfr.2 0 (by decide) (by decide)]; exact h0
  have hH1 := hC1.2.2.1.1.1
  have hMo1 := hC1.2.2.1.1.2.1
  rw [hg]
  refine r_if_ne (tgt := 66) dX10_walk_60 (by decide) (fun hz => absurd (show _ from rfl) hz) (fun _ => ?_)
  refine r_bipush (v := -2) dX10_walk_63 (by decide) ?_
  refine r_iret rfl dX10_walk_65 ?_
  exact ⟨rfl, rfl, rfl, rfl, fun a ha => ⟨hfr.1 a (by omega) (by omega) (by omega) (by omega), rfl⟩, h01, hC1⟩

set_option maxHeartbeats 4000000 in
set_option maxRecDepth 100000 in
theorem q_walk_many (m : Nat) (S p cr : Nat) {t : Nat} {T : Nat → Nat} {fp : Int32} {rr : Nat → Int32} {H M : Nat} {un : Bool} {cs : Nat → List Nat} {tx : Nat → List Int32} {e : Lf} {im : Option Lf} {wk : Option (List Nat)} {n : Nat} {kd : mK} {I : mI} {J : mJ} {P : mP} (hC : RR m kd I P t T fp rr H M un cs tx e im wk) (hz : okZ t T H M cs e) (hS2 : S < 2 ^ H) (hp1 : 1 ≤ p) (hp : p ≤ M) (hcr : cr ≤ 9) (hg : gdN H M un cs e = true) (hl10 : 10 < (wkG (fsN H M un cs e) S H).length) : Ct yX10_walk cX10_walk 10 (some .int) 10 0 0 [.ref m, .int (nI S), .int (nI p), .int (nI cr)] n kd I J P (pQ m n kd I J P (some (.int (-2))) 0 (RX m t T fp rr H M un cs tx e im wk)) := by
  refine ct_of 6 (by decide +kernel) (Nat.le_of_ble_eq_true rfl) rfl ?_
  refine r_aload_n dX10_walk_0 rfl ?_
  refine r_iconst (v := nI 0) dX10_walk_1 (by decide) ?_
  refine r_putI dX10_walk_2 fl_X10_193 rfl rfl (kM_0 hC.1) ?_
  refine q_th hC (fun I hC h0 => ?_)
  have hC0 := hC
  have hz0 := hz
  obtain ⟨hM, hT, hSt, hLf, hIm, hWk⟩ := hC
  obtain ⟨okt, oks, okl⟩ := hz
  have hH8 : H ≤ 8 := oks.2.1
  have hM20 : 2 ≤ M ∧ M ≤ 20 := oks.1
  have hH : I m 1 = nI H := hSt.1.1
  have hMo : I m 2 = nI M := hSt.1.2.1
  have p8 := pw8 hH8
  have hrg : fRng H M (fsN H M un cs e) := (zR_rng hH8 hM20.2).2
  have hl : (fsN H M un cs e).length ≤ 1000 := gd_len hg
  have hwM := woN_lt (S := S) hrg H (Nat.le_refl H)
  have hwl : woN (fsN H M un cs e) S H < 2 ^ 21 := Nat.lt_of_lt_of_le hwM (Nat.pow_le_pow_right (by decide) (by omega))
  have hw0 : (woN (fsN H M un cs e) S H).testBit 0 = false := by
    cases hx : (woN (fsN H M un cs e) S H).testBit 0
    · rfl
    · have := woN_bit hrg H (Nat.le_refl H) 0 hx
      omega
  have hlen : pcF (nI (woN (fsN H M un cs e) S H)) 21 = (wkG (fsN H M un cs e) S H).length := (gls_len hw0 20 (by decide)).symm
  have hle := pcF_le (nI (woN (fsN H M un cs e) S H)) 21
  refine r_aload_n dX10_walk_5 rfl ?_
  refine r_iload_n dX10_walk_6 rfl ?_
  refine r_if_lt (tgt := 46) dX10_walk_7 (by decide) (fun hz => absurd hz (show ¬ _ from (z_nlt (by omega)))) (fun _ => ?_)
  refine r_iload_n dX10_walk_10 rfl ?_
  refine r_iconst (v := nI 1) dX10_walk_11 (by decide) ?_
  refine r_aload_n dX10_walk_12 rfl ?_
  refine r_getI dX10_walk_13 fl_X10_350 rfl (kM_0 hM) ?_
  rw [hH]
  refine r_ishl dX10_walk_16 ?_
  rw [sh1_8 H hH8]
  refine r_icmp_ge (tgt := 46) dX10_walk_17 (by decide) (fun hz => absurd hz (show ¬ _ from (by rw [nI_leI (by omega) (by omega)]; omega))) (fun _ => ?_)
  refine r_iload_n dX10_walk_20 rfl ?_
  refine r_iconst (v := nI 1) dX10_walk_21 (by decide) ?_
  refine r_aload_n dX10_walk_22 rfl ?_
  refine r_getI dX10_walk_23 fl_X10_7 rfl (kM_0 hM) ?_
  rw [hMo]
  refine r_statE (c_X10_within (nI p) (nI 1) (nI M)) lk_X10_369 mc_X10_within dX10_walk_26 (by decide) rfl rfl (Nat.le_of_ble_eq_true rfl) ?_
  rw [show (!decide (nI p < nI 1) && !decide (nI M < nI p)) = true from wi_of hp1 hp (by omega)]
  refine r_if_eq (tgt := 46) dX10_walk_29 (by decide) (fun hz => absurd hz (show ¬ _ from (by decide))) (fun _ => ?_)
  refine r_iload_n dX10_walk_32 rfl ?_
  refine r_iconst (v := nI 0) dX10_walk_33 (by decide) ?_
  refine r_bipush (v := nI 9) dX10_walk_34 (by decide) ?_
  refine r_statE (c_X10_within (nI cr) (nI 0) (nI 9)) lk_X10_369 mc_X10_within dX10_walk_36 (by decide) rfl rfl (Nat.le_of_ble_eq_true rfl) ?_
  rw [show (!decide (nI cr < nI 0) && !decide (nI 9 < nI cr)) = true from wi_of (Nat.zero_le _) hcr (by decide)]
  refine r_if_eq (tgt := 46) dX10_walk_39 (by decide) (fun hz => absurd hz (show ¬ _ from (by decide))) (fun _ => ?_)
  refine r_iconst (v := nI 1) dX10_walk_42 (by decide) ?_
  refine r_goto (tgt := 47) dX10_walk_43 (by decide) ?_
  refine r_iconst (v := nI 1) dX10_walk_47 (by decide) ?_
  refine r_virtE (c_X10_right m true (nI 1) hM h0 (by decide)) lk_X10_343 mc_X10_right dX10_walk_48 (kM_0 hM) (by decide) rfl rfl (Nat.le_of_ble_eq_true rfl) ?_
  rw [thM_ok]
  refine r_if_ne (tgt := 56) dX10_walk_51 (by decide) (fun _ => ?_) (fun hz => absurd hz (show ¬ _ from (by decide)))
  refine r_aload_n dX10_walk_56 rfl ?_
  refine r_virt (kc2 := 0) (ks2 := 0) (q_seeksAll m hC0 hz0) lk_X10_436 mc_X10_seeksAll dX10_walk_57 (kM_0 hM) (by decide) rfl rfl (Nat.le_of_ble_eq_true rfl) (by decide) (by decide) (fun _ _ _ _ _ _ h => nomatch h.1) ?_
  rintro v1 n1 kd1 I1 J1 P1 ⟨h00, rfl, rfl, rfl, rfl, hfr, hfd⟩
  cases h00
  simp only [Option.toList, List.nil_append, List.cons_append]
  have hC1 := RR.rf hfr hC0
  have h01 : I1 m 0 = 0 := by rw [hfr.2 0 (by decide) (by decide)]; exact h0
  have hH1 := hC1.2.2.1.1.1
  have hMo1 := hC1.2.2.1.1.2.1
  rw [hg]
  refine r_if_ne (tgt := 66) dX10_walk_60 (by decide) (fun _ => ?_) (fun hz => absurd hz (show ¬ _ from (by decide)))
  refine r_iconst (v := nI 0) dX10_walk_66 (by decide) ?_
  refine r_istore dX10_walk_67 (by decide) ?_
  refine r_iconst (v := nI 0) dX10_walk_69 (by decide) ?_
  refine r_istore dX10_walk_70 (by decide) ?_
  refine rwk_lp (n := n1) m S p cr hM hH8 hM20 hH1 hg hfd hl ?_ H 0 (by omega)
  refine r_iload dX10_walk_112 rfl ?_
  refine r_statE (c_X10_bits (nI (woN (fsN H M un cs e) S H))) lk_X10_448 mc_X10_bits dX10_walk_114 (by decide) rfl rfl (Nat.le_of_ble_eq_true rfl) ?_
  rw [hlen]
  refine r_bipush (v := nI 10) dX10_walk_117 (by decide) ?_
  refine r_icmp_le (tgt := 125) dX10_walk_119 (by decide) (fun hz => absurd hz (show ¬ _ from (by rw [nI_leI (by omega) (by omega)]; omega))) (fun _ => ?_)
  refine r_bipush (v := -2) dX10_walk_122 (by decide) ?_
  refine r_iret rfl dX10_walk_124 ?_
  exact ⟨rfl, rfl, rfl, rfl, fun a ha => ⟨hfr.1 a (by omega) (by omega) (by omega) (by omega), rfl⟩, h01, hC1⟩

set_option maxHeartbeats 4000000 in
set_option maxRecDepth 100000 in
theorem q_walk (m : Nat) (S p cr : Nat) {t : Nat} {T : Nat → Nat} {fp : Int32} {rr : Nat → Int32} {H M : Nat} {un : Bool} {cs : Nat → List Nat} {tx : Nat → List Int32} {e : Lf} {im : Option Lf} {wk : Option (List Nat)} {n : Nat} {kd : mK} {I : mI} {J : mJ} {P : mP} (hC : RR m kd I P t T fp rr H M un cs tx e im wk) (hz : okZ t T H M cs e) (hS2 : S < 2 ^ H) (hp1 : 1 ≤ p) (hp : p ≤ M) (hcr : cr ≤ 9) (hg : gdN H M un cs e = true) (hl10 : (wkG (fsN H M un cs e) S H).length ≤ 10) : Ct yX10_walk cX10_walk 10 (some .int) 10 0 0 [.ref m, .int (nI S), .int (nI p), .int (nI cr)] n kd I J P (pQ m n kd I J P (some (.int (nI (wkV (fsN H M un cs e) S H p cr)))) 0 (RX m t T fp rr H M un cs tx e im (some (wkR (fsN H M un cs e) S H p cr)))) := by
  refine ct_of 6 (by decide +kernel) (Nat.le_of_ble_eq_true rfl) rfl ?_
  refine r_aload_n dX10_walk_0 rfl ?_
  refine r_iconst (v := nI 0) dX10_walk_1 (by decide) ?_
  refine r_putI dX10_walk_2 fl_X10_193 rfl rfl (kM_0 hC.1) ?_
  refine q_th hC (fun I hC h0 => ?_)
  have hC0 := hC
  have hz0 := hz
  obtain ⟨hM, hT, hSt, hLf, hIm, hWk⟩ := hC
  obtain ⟨okt, oks, okl⟩ := hz
  have hH8 : H ≤ 8 := oks.2.1
  have hM20 : 2 ≤ M ∧ M ≤ 20 := oks.1
  have hH : I m 1 = nI H := hSt.1.1
  have hMo : I m 2 = nI M := hSt.1.2.1
  have p8 := pw8 hH8
  have hrg : fRng H M (fsN H M un cs e) := (zR_rng hH8 hM20.2).2
  have hl : (fsN H M un cs e).length ≤ 1000 := gd_len hg
  have hwM := woN_lt (S := S) hrg H (Nat.le_refl H)
  have hwl : woN (fsN H M un cs e) S H < 2 ^ 21 := Nat.lt_of_lt_of_le hwM (Nat.pow_le_pow_right (by decide) (by omega))
  have hw0 : (woN (fsN H M un cs e) S H).testBit 0 = false := by
    cases hx : (woN (fsN H M un cs e) S H).testBit 0
    · rfl
    · have := woN_bit hrg H (Nat.le_refl H) 0 hx
      omega
  have hlen : pcF (nI (woN (fsN H M un cs e) S H)) 21 = (wkG (fsN H M un cs e) S H).length := (gls_len hw0 20 (by decide)).symm
  have hle := pcF_le (nI (woN (fsN H M un cs e) S H)) 21
  refine r_aload_n dX10_walk_5 rfl ?_
  refine r_iload_n dX10_walk_6 rfl ?_
  refine r_if_lt (tgt := 46) dX10_walk_7 (by decide) (fun hz => absurd hz (show ¬ _ from (z_nlt (by omega)))) (fun _ => ?_)
  refine r_iload_n dX10_walk_10 rfl ?_
  refine r_iconst (v := nI 1) dX10_walk_11 (by decide) ?_
  refine r_aload_n dX10_walk_12 rfl ?_
  refine r_getI dX10_walk_13 fl_X10_350 rfl (kM_0 hM) ?_
  rw [hH]
  refine r_ishl dX10_walk_16 ?_
  rw [sh1_8 H hH8]
  refine r_icmp_ge (tgt := 46) dX10_walk_17 (by decide) (fun hz => absurd hz (show ¬ _ from (by rw [nI_leI (by omega) (by omega)]; omega))) (fun _ => ?_)
  refine r_iload_n dX10_walk_20 rfl ?_
  refine r_iconst (v := nI 1) dX10_walk_21 (by decide) ?_
  refine r_aload_n dX10_walk_22 rfl ?_
  refine r_getI dX10_walk_23 fl_X10_7 rfl (kM_0 hM) ?_
  rw [hMo]
  refine r_statE (c_X10_within (nI p) (nI 1) (nI M)) lk_X10_369 mc_X10_within dX10_walk_26 (by decide) rfl rfl (Nat.le_of_ble_eq_true rfl) ?_
  rw [show (!decide (nI p < nI 1) && !decide (nI M < nI p)) = true from wi_of hp1 hp (by omega)]
  refine r_if_eq (tgt := 46) dX10_walk_29 (by decide) (fun hz => absurd hz (show ¬ _ from (by decide))) (fun _ => ?_)
  refine r_iload_n dX10_walk_32 rfl ?_
  refine r_iconst (v := nI 0) dX10_walk_33 (by decide) ?_
  refine r_bipush (v := nI 9) dX10_walk_34 (by decide) ?_
  refine r_statE (c_X10_within (nI cr) (nI 0) (nI 9)) lk_X10_369 mc_X10_within dX10_walk_36 (by decide) rfl rfl (Nat.le_of_ble_eq_true rfl) ?_
  rw [show (!decide (nI cr < nI 0) && !decide (nI 9 < nI cr)) = true from wi_of (Nat.zero_le _) hcr (by decide)]
  refine r_if_eq (tgt := 46) dX10_walk_39 (by decide) (fun hz => absurd hz (show ¬ _ from (by decide))) (fun _ => ?_)
  refine r_iconst (v := nI 1) dX10_walk_42 (by decide) ?_
  refine r_goto (tgt := 47) dX10_walk_43 (by decide) ?_
  refine r_iconst (v := nI 1) dX10_walk_47 (by decide) ?_
  refine r_virtE (c_X10_right m true (nI 1) hM h0 (by decide)) lk_X10_343 mc_X10_right dX10_walk_48 (kM_0 hM) (by decide) rfl rfl (Nat.le_of_ble_eq_true rfl) ?_
  rw [thM_ok]
  refine r_if_ne (tgt := 56) dX10_walk_51 (by decide) (fun _ => ?_) (fun hz => absurd hz (show ¬ _ from (by decide)))
  refine r_aload_n dX10_walk_56 rfl ?_
  refine r_virt (kc2 := 0) (ks2 := 0) (q_seeksAll m hC0 hz0) lk_X10_436 mc_X10_seeksAll dX10_walk_57 (kM_0 hM) (by decide) rfl rfl (Nat.le_of_ble_eq_true rfl) (by decide) (by decide) (fun _ _ _ _ _ _ h => nomatch h.1) ?_
  rintro v1 n1 kd1 I1 J1 P1 ⟨h00, rfl, rfl, rfl, rfl, hfr, hfd⟩
  cases h00
  simp only [Option.toList, List.nil_append, List.cons_append]
  have hC1 := RR.rf hfr hC0
  have h01 : I1 m 0 = 0 := by rw [hfr.2 0 (by decide) (by decide)]; exact h0
  have hH1 := hC1.2.2.1.1.1
  have hMo1 := hC1.2.2.1.1.2.1
  rw [hg]
  refine r_if_ne (tgt := 66) dX10_walk_60 (by decide) (fun _ => ?_) (fun hz => absurd hz (show ¬ _ from (by decide)))
  refine r_iconst (v := nI 0) dX10_walk_66 (by decide) ?_
  refine r_istore dX10_walk_67 (by decide) ?_
  refine r_iconst (v := nI 0) dX10_walk_69 (by decide) ?_
  refine r_istore dX10_walk_70 (by decide) ?_
  refine rwk_lp (n := n1) m S p cr hM hH8 hM20 hH1 hg hfd hl ?_ H 0 (by omega)
  refine r_iload dX10_walk_112 rfl ?_
  refine r_statE (c_X10_bits (nI (woN (fsN H M un cs e) S H))) lk_X10_448 mc_X10_bits dX10_walk_114 (by decide) rfl rfl (Nat.le_of_ble_eq_true rfl) ?_
  rw [hlen]
  refine r_bipush (v := nI 10) dX10_walk_117 (by decide) ?_
  refine r_icmp_le (tgt := 125) dX10_walk_119 (by decide) (fun _ => ?_) (fun hz => absurd (show _ from (by rw [nI_leI (by omega) (by omega)]; omega)) hz)
  refine r_aload_n dX10_walk_125 rfl ?_
  refine r_iconst (v := nI 0) dX10_walk_126 (by decide) ?_
  refine r_putI dX10_walk_127 fl_X10_487 rfl rfl (kM_0 hM) ?_
  refine r_iconst (v := nI 1) dX10_walk_130 (by decide) ?_
  refine r_istore dX10_walk_131 (by decide) ?_
  refine rgo_loop m S p cr (woN (fsN H M un cs e) S H) M (va_up I1 m (va_up (I1 m) 73 (nI 0))) hM (by rw [am_up_s, am_up_n _ _ (by decide)]; exact hMo1) hM20.2 hwM hl10 ?_ M 0 _ (by omega) (fun _ _ _ => rfl) (fun _ _ => rfl) (by rw [am_up_s, am_up_s]; rfl) (fun j hj => absurd hj (Nat.not_lt_zero _))
  intro I3 z5 g1 g2 e73 e36
  change I3 m 73 = nI (wkG (fsN H M un cs e) S H).length at e73
  change ∀ j, j < (wkG (fsN H M un cs e) S H).length → I3 (m + 36) j = nI (gN (wkG (fsN H M un cs e) S H) j) at e36
  refine r_iconst (v := nI 1) dX10_walk_182 (by decide) ?_
  refine r_aload_n dX10_walk_183 rfl ?_
  refine r_getI dX10_walk_184 fl_X10_487 rfl (kM_0 hM) ?_
  rw [e73]
  refine r_ishl dX10_walk_187 ?_
  rw [sh1_10 _ hl10]
  refine r_iconst (v := nI 1) dX10_walk_188 (by decide) ?_
  refine r_isub dX10_walk_189 ?_
  rw [pk_sub (Nat.two_pow_pos _)]
  refine r_istore dX10_walk_190 (by decide) ?_
  have hS : rkS kd1 I3 P1 m (wkG (fsN H M un cs e) S H).length cr (gN (wkG (fsN H M un cs e) S H)) := ⟨hM, e73, e36, hl10, hcr, fun j _ => gN_le (fun v hv => (gls_mem 20 hv).2) j⟩
  have h2p := Nat.two_pow_pos (wkG (fsN H M un cs e) S H).length
  have hlp := fun post hK => rt_out (n := n1) (J := J1) (post := post) m (wkG (fsN H M un cs e) S H).length cr (gN (wkG (fsN H M un cs e) S H)) S p (woN (fsN H M un cs e) S H) hS (2 ^ (wkG (fsN H M un cs e) S H).length - 1) none none (I3 (m + 38)) (by omega) (fun E x a b => by omega) hK
  rw [am_up_id] at hlp
  refine hlp _ (fun z6 z7 A hA => ?_)
  have hSA := hS.up (a := m + 38) (A := A) (Or.inr rfl)
  have hTA : KR (gN (wkG (fsN H M un cs e) S H)) cr (wkG (fsN H M un cs e) S H).length 0 (va_up I3 (m + 38) A (m + 38)) := by rw [am_up_s]; exact hA
  have hLl : (wkR (fsN H M un cs e) S H p cr).length = (wkG (fsN H M un cs e) S H).length := wkL_len _ p 0 h2p (by rw [cnB_0]; omega)
  have hrr := rr_loop (n := n1) (J := J1) m (wkG (fsN H M un cs e) S H).length cr (gN (wkG (fsN H M un cs e) S H)) S p (woN (fsN H M un cs e) S H) (wkR (fsN H M un cs e) S H p cr) hSA hTA hLl (wkG (fsN H M un cs e) S H).length 0 0 p 0 none (va_up I3 (m + 38) A (m + 37)) (by omega) h2p (cnB_0 _) (by omega) (Nat.zero_add _) rfl (fun j hj => absurd hj (Nat.not_lt_zero _))
  rw [am_up_id] at hrr
  refine r_iload_n dX10_walk_297 rfl ?_
  refine r_istore dX10_walk_298 (by decide) ?_
  refine r_iconst (v := nI 0) dX10_walk_300 (by decide) ?_
  refine r_istore dX10_walk_301 (by decide) ?_
  refine r_iconst (v := nI 0) dX10_walk_303 (by decide) ?_
  refine r_istore dX10_walk_304 (by decide) ?_
  refine r_iconst (v := nI 0) dX10_walk_306 (by decide) ?_
  refine r_istore dX10_walk_307 (by decide) ?_
  refine RuZ.mono hrr (fun z n4 kd4 I4 J4 P4 hx => ?_)
  obtain ⟨R, hR, hv, rfl, rfl, rfl, rfl, rfl⟩ := hx
  have f0 : ∀ a, a ≠ m → (a < m + 36 ∨ m + 38 < a) → va_up (va_up (va_up I3 (m + 38) A) (m + 37) R) m (va_up ((va_up I3 (m + 38) A) m) 74 (nI (wkG (fsN H M un cs e) S H).length)) a = I1 a := fun a a1 a2 => by
    rw [am_up_n _ _ a1, am_up_n _ _ (by omega), am_up_n _ _ (by omega), g1 a a1 (by omega), am_up_n _ _ a1]
  have f1 : ∀ j, j ≠ 73 → j ≠ 74 → va_up (va_up (va_up I3 (m + 38) A) (m + 37) R) m (va_up ((va_up I3 (m + 38) A) m) 74 (nI (wkG (fsN H M un cs e) S H).length)) m j = I1 m j := fun j j1 j2 => by
    rw [am_up_s, am_up_n _ _ j2, am_up_n _ _ (by omega), g2 j j1, am_up_s, am_up_n _ _ j1]
  refine ⟨hv, rfl, rfl, rfl, fun a ha => ⟨(f0 a (by omega) (by omega)).trans (hfr.1 a (by omega) (by omega) (by omega) (by omega)), rfl⟩, (f1 0 (by decide) (by decide)).trans h01, RR.wk hC1 (fun a a1 a2 a3 => f0 a (by omega) a3) f1 (by rw [am_up_s, am_up_s, hLl]) (fun j hj => by rw [am_up_n _ _ (by omega), am_up_s]; exact hR j hj)⟩

set_option maxHeartbeats 4000000 in
set_option maxRecDepth 100000 in
theorem q_walk_no (m : Nat) (y pp x : Int32) {t : Nat} {T : Nat → Nat} {fp : Int32} {rr : Nat → Int32} {H M : Nat} {un : Bool} {cs : Nat → List Nat} {tx : Nat → List Int32} {e : Lf} {im : Option Lf} {wk : Option (List Nat)} {n : Nat} {kd : mK} {I : mI} {J : mJ} {P : mP} (hC : RR m kd I P t T fp rr H M un cs tx e im wk) (hz : okZ t T H M cs e) (hb : wkO H M y pp x = false) : Ct yX10_walk cX10_walk 10 (some .int) 10 0 0 [.ref m, .int y, .int pp, .int x] n kd I J P (pQ m n kd I J P (some (.int (nI 0))) 1 (RX m t T fp rr H M un cs tx e im wk)) := by
  refine ct_of 6 (by decide +kernel) (Nat.le_of_ble_eq_true rfl) rfl ?_
  refine r_aload_n dX10_walk_0 rfl ?_
  refine r_iconst (v := nI 0) dX10_walk_1 (by decide) ?_
  refine r_putI dX10_walk_2 fl_X10_193 rfl rfl (kM_0 hC.1) ?_
  refine q_th hC (fun I hC h0 => ?_)
  have hC0 := hC
  have hz0 := hz
  obtain ⟨hM, hT, hSt, hLf, hIm, hWk⟩ := hC
  obtain ⟨okt, oks, okl⟩ := hz
  have hH8 : H ≤ 8 := oks.2.1
  have hM20 : 2 ≤ M ∧ M ≤ 20 := oks.1
  have hH : I m 1 = nI H := hSt.1.1
  have hMo : I m 2 = nI M := hSt.1.2.1
  by_cases c1 : y < 0
  · skip
    refine r_aload_n dX10_walk_5 rfl ?_
    refine r_iload_n dX10_walk_6 rfl ?_
    refine r_if_lt (tgt := 46) dX10_walk_7 (by decide) (fun _ => ?_) (fun hz => absurd (show _ from c1) hz)
    refine r_iconst (v := nI 0) dX10_walk_46 (by decide) ?_
    refine r_iconst (v := nI 1) dX10_walk_47 (by decide) ?_
    refine r_virtE (c_X10_right m false (nI 1) hM h0 (by decide)) lk_X10_343 mc_X10_right dX10_walk_48 (kM_0 hM) (by decide) rfl rfl (Nat.le_of_ble_eq_true rfl) ?_
    refine r_if_ne (tgt := 56) dX10_walk_51 (by decide) (fun hz => absurd (show _ from rfl) hz) (fun _ => ?_)
    refine r_iconst (v := nI 0) dX10_walk_54 (by decide) ?_
    refine r_iret rfl dX10_walk_55 ?_
    exact pQ.th hC0 am_is.mk
  · by_cases c2 : y < nI (2 ^ H)
    · by_cases c3 : (!decide (pp < nI 1) && !decide (nI M < pp)) = true
      · have c4 : (!decide (x < nI 0) && !decide (nI 9 < x)) = false := by
          cases hx : (!decide (x < nI 0) && !decide (nI 9 < x))
          · rfl
          · exfalso
            unfold wkO at hb
            have hx2 : (!decide (x < 0) && !decide (nI 9 < x)) = true := hx
            rw [hx2, decide_eq_false c1, decide_eq_true c2, Bool.and_true, Bool.not_false, Bool.true_and, Bool.true_and] at hb
            have := wiN_no hb
            rw [c3] at this
            exact nomatch this
        refine r_aload_n dX10_walk_5 rfl ?_
        refine r_iload_n dX10_walk_6 rfl ?_
        refine r_if_lt (tgt := 46) dX10_walk_7 (by decide) (fun hz => absurd hz (show ¬ _ from c1)) (fun _ => ?_)
        refine r_iload_n dX10_walk_10 rfl ?_
        refine r_iconst (v := nI 1) dX10_walk_11 (by decide) ?_
        refine r_aload_n dX10_walk_12 rfl ?_
        refine r_getI dX10_walk_13 fl_X10_350 rfl (kM_0 hM) ?_
        rw [hH]
        refine r_ishl dX10_walk_16 ?_
        rw [sh1_8 H hH8]
        refine r_icmp_ge (tgt := 46) dX10_walk_17 (by decide) (fun hz => absurd hz (show ¬ _ from (Int32.not_le.mpr c2))) (fun _ => ?_)
        refine r_iload_n dX10_walk_20 rfl ?_
        refine r_iconst (v := nI 1) dX10_walk_21 (by decide) ?_
        refine r_aload_n dX10_walk_22 rfl ?_
        refine r_getI dX10_walk_23 fl_X10_7 rfl (kM_0 hM) ?_
        rw [hMo]
        refine r_statE (c_X10_within (pp) (nI 1) (nI M)) lk_X10_369 mc_X10_within dX10_walk_26 (by decide) rfl rfl (Nat.le_of_ble_eq_true rfl) ?_
        rw [show (!decide (pp < nI 1) && !decide (nI M < pp)) = true from c3]
        refine r_if_eq (tgt := 46) dX10_walk_29 (by decide) (fun hz => absurd hz (show ¬ _ from (by decide))) (fun _ => ?_)
        refine r_iload_n dX10_walk_32 rfl ?_
        refine r_iconst (v := nI 0) dX10_walk_33 (by decide) ?_
        refine r_bipush (v := nI 9) dX10_walk_34 (by decide) ?_
        refine r_statE (c_X10_within (x) (nI 0) (nI 9)) lk_X10_369 mc_X10_within dX10_walk_36 (by decide) rfl rfl (Nat.le_of_ble_eq_true rfl) ?_
        rw [show (!decide (x < nI 0) && !decide (nI 9 < x)) = false from c4]
        refine r_if_eq (tgt := 46) dX10_walk_39 (by decide) (fun _ => ?_) (fun hz => absurd (show _ from rfl) hz)
        refine r_iconst (v := nI 0) dX10_walk_46 (by decide) ?_
        refine r_iconst (v := nI 1) dX10_walk_47 (by decide) ?_
        refine r_virtE (c_X10_right m false (nI 1) hM h0 (by decide)) lk_X10_343 mc_X10_right dX10_walk_48 (kM_0 hM) (by decide) rfl rfl (Nat.le_of_ble_eq_true rfl) ?_
        refine r_if_ne (tgt := 56) dX10_walk_51 (by decide) (fun hz => absurd (show _ from rfl) hz) (fun _ => ?_)
        refine r_iconst (v := nI 0) dX10_walk_54 (by decide) ?_
        refine r_iret rfl dX10_walk_55 ?_
        exact pQ.th hC0 am_is.mk
      · have c3 : (!decide (pp < nI 1) && !decide (nI M < pp)) = false := by
          cases hx : (!decide (pp < nI 1) && !decide (nI M < pp))
          · rfl
          · exact absurd hx c3
        refine r_aload_n dX10_walk_5 rfl ?_
        refine r_iload_n dX10_walk_6 rfl ?_
        refine r_if_lt (tgt := 46) dX10_walk_7 (by decide) (fun hz => absurd hz (show ¬ _ from c1)) (fun _ => ?_)
        refine r_iload_n dX10_walk_10 rfl ?_
        refine r_iconst (v := nI 1) dX10_walk_11 (by decide) ?_
        refine r_aload_n dX10_walk_12 rfl ?_
        refine r_getI dX10_walk_13 fl_X10_350 rfl (kM_0 hM) ?_
        rw [hH]
        refine r_ishl dX10_walk_16 ?_
        rw [sh1_8 H hH8]
        refine r_icmp_ge (tgt := 46) dX10_walk_17 (by decide) (fun hz => absurd hz (show ¬ _ from (Int32.not_le.mpr c2))) (fun _ => ?_)
        refine r_iload_n dX10_walk_20 rfl ?_
        refine r_iconst (v := nI 1) dX10_walk_21 (by decide) ?_
        refine r_aload_n dX10_walk_22 rfl ?_
        refine r_getI dX10_walk_23 fl_X10_7 rfl (kM_0 hM) ?_
        rw [hMo]
        refine r_statE (c_X10_within (pp) (nI 1) (nI M)) lk_X10_369 mc_X10_within dX10_walk_26 (by decide) rfl rfl (Nat.le_of_ble_eq_true rfl) ?_
        rw [show (!decide (pp < nI 1) && !decide (nI M < pp)) = false from c3]
        refine r_if_eq (tgt := 46) dX10_walk_29 (by decide) (fun _ => ?_) (fun hz => absurd (show _ from rfl) hz)
        refine r_iconst (v := nI 0) dX10_walk_46 (by decide) ?_
        refine r_iconst (v := nI 1) dX10_walk_47 (by decide) ?_
        refine r_virtE (c_X10_right m false (nI 1) hM h0 (by decide)) lk_X10_343 mc_X10_right dX10_walk_48 (kM_0 hM) (by decide) rfl rfl (Nat.le_of_ble_eq_true rfl) ?_
        refine r_if_ne (tgt := 56) dX10_walk_51 (by decide) (fun hz => absurd (show _ from rfl) hz) (fun _ => ?_)
        refine r_iconst (v := nI 0) dX10_walk_54 (by decide) ?_
        refine r_iret rfl dX10_walk_55 ?_
        exact pQ.th hC0 am_is.mk
    · skip
      refine r_aload_n dX10_walk_5 rfl ?_
      refine r_iload_n dX10_walk_6 rfl ?_
      refine r_if_lt (tgt := 46) dX10_walk_7 (by decide) (fun hz => absurd hz (show ¬ _ from c1)) (fun _ => ?_)
      refine r_iload_n dX10_walk_10 rfl ?_
      refine r_iconst (v := nI 1) dX10_walk_11 (by decide) ?_
      refine r_aload_n dX10_walk_12 rfl ?_
      refine r_getI dX10_walk_13 fl_X10_350 rfl (kM_0 hM) ?_
      rw [hH]
      refine r_ishl dX10_walk_16 ?_
      rw [sh1_8 H hH8]
      refine r_icmp_ge (tgt := 46) dX10_walk_17 (by decide) (fun _ => ?_) (fun hz => absurd (show _ from (Int32.not_lt.mp c2)) hz)
      refine r_iconst (v := nI 0) dX10_walk_46 (by decide) ?_
      refine r_iconst (v := nI 1) dX10_walk_47 (by decide) ?_
      refine r_virtE (c_X10_right m false (nI 1) hM h0 (by decide)) lk_X10_343 mc_X10_right dX10_walk_48 (kM_0 hM) (by decide) rfl rfl (Nat.le_of_ble_eq_true rfl) ?_
      refine r_if_ne (tgt := 56) dX10_walk_51 (by decide) (fun hz => absurd (show _ from rfl) hz) (fun _ => ?_)
      refine r_iconst (v := nI 0) dX10_walk_54 (by decide) ?_
      refine r_iret rfl dX10_walk_55 ?_
      exact pQ.th hC0 am_is.mk


/-! STREET: the reference reads a part -/
theorem paw_w {T : RT} {h i c : Nat} {k : Int32} (hk : tkK T i = k) (h2 : ¬ k = nI 2) (h1 : ¬ k = nI 141) (hc : cov k h = nI c) (hc9 : c < 30000) : pAtom T h i = (0, i + 1, [c]) := by
  unfold pAtom
  rw [hk, if_neg h2, if_neg h1, hc, if_pos (nI_m1 (by omega)), nO_nI (by omega)]
theorem paw_o {T : RT} {h i : Nat} (h0 : ¬ tkK T i = nI 136) (h1 : ¬ tkK T i = nI 137) (h2 : ¬ tkK T i = nI 138) (h3 : ¬ tkK T i = nI 139) (h4 : ¬ tkK T i = nI 140) (h5 : ¬ tkK T i = nI 129) (h6 : ¬ tkK T i = nI 141) (hn : ¬ tkK T i = nI 2) : pAtom T h i = (if tkK T i < nI 128 then 1 else 3, i, []) := by
  unfold pAtom
  rw [if_neg hn, if_neg h6, show cov (tkK T i) h = -1 from by unfold cov; rw [if_neg h0, if_neg h1, if_neg h2, if_neg h3, if_neg h4, if_neg h5], if_neg (fun q => q rfl)]
set_option maxHeartbeats 4000000 in
set_option maxRecDepth 100000 in
theorem c_valueR {m h : Nat} {T : RT} {a0 : Nat} {C0 : Nat → Int32} {i : Nat} {out w : List Nat} {te : Nat → Bool} {n : Nat} {kd : mK} {I : mI} {J : mJ} {P : mP} (hM : kM kd P m) (hT : tkA T) (hh : h < 8) (hg : eG m h T a0 C0 0 I J i out w te) (hw : ¬ tkK T i < nI 128) : Ct yX10_valueHere cX10_valueHere 4 none 8 0 0 [.ref m] n kd I J P (fun z n' kd' I' J' P' => z = .inl none ∧ n' = n ∧ kd' = kd ∧ P' = P ∧ eFr m I I' J J' ∧ ((pAtom T h i).1 = 0 → eG m h T a0 C0 2 I' J' ((pAtom T h i).2.1 - 1) (out ++ (pAtom T h i).2.2) w te) ∧ (¬ (pAtom T h i).1 = 0 → eB m T I' (pAtom T h i).1 (pAtom T h i).2.1)) := by
  have hg0 := hg
  obtain ⟨⟨h16, h27, hgi⟩, ⟨hk, hi⟩, ⟨top, hC, hb⟩, h29, hW, hwi, hD⟩ := hg
  have h501 := hT.1.1.1
  refine ct_of 3 (by decide +kernel) (Nat.le_of_ble_eq_true rfl) rfl ?_
  by_cases c136 : tkK T i = nI 136
  · have hkw : kwI (tkK T i) = nI 0 := by rw [c136]; rfl
    rw [paw_w (h := h) (c := 10000 + (h + 0)) c136 (by decide) (by decide) (by rfl) (by omega)]
    refine r_aload_n dX10_valueHere_0 rfl ?_
    refine r_virtE (c_known m (kwI (tkK T i)) hM hk.2.2.1.symm) lk_X10_262 mc_X10_knownWord dX10_valueHere_1 (kM_0 hM) (by decide) rfl rfl (Nat.le_of_ble_eq_true rfl) ?_
    rw [hkw]
    refine r_istore_n dX10_valueHere_4 (by decide) ?_
    refine r_iload_n dX10_valueHere_5 rfl ?_
    refine r_if_lt (tgt := 15) dX10_valueHere_6 (by decide) (fun hz => absurd hz (show ¬ _ from (by decide))) (fun _ => ?_)
    refine r_iload_n dX10_valueHere_9 rfl ?_
    refine r_bipush (v := nI 6) dX10_valueHere_10 (by decide) ?_
    refine r_icmp_le (tgt := 20) dX10_valueHere_12 (by decide) (fun _ => ?_) (fun hz => absurd (show _ from (by decide)) hz)
    refine r_aload_n dX10_valueHere_20 rfl ?_
    refine r_virtE (c_good m hM) lk_X10_252 mc_X10_isGood dX10_valueHere_21 (kM_0 hM) (by decide) rfl rfl (Nat.le_of_ble_eq_true rfl) ?_
    rw [h16, show decide (nI 0 = 0) = true from rfl]
    refine r_if_ne (tgt := 28) dX10_valueHere_24 (by decide) (fun _ => ?_) (fun hz => absurd hz (show ¬ _ from (by decide)))
    refine r_aload_n dX10_valueHere_28 rfl ?_
    refine r_getI dX10_valueHere_29 fl_X10_266 rfl (kM_0 hM) ?_
    rw [h27]
    refine r_istore_n dX10_valueHere_32 (by decide) ?_
    refine r_iload_n dX10_valueHere_33 rfl ?_
    refine r_bipush (v := nI 6) dX10_valueHere_34 (by decide) ?_
    refine r_icmp_ne (tgt := 94) dX10_valueHere_36 (by decide) (fun _ => ?_) (fun hz => absurd hz (show ¬ _ from (by decide)))
    refine r_iload_n dX10_valueHere_94 rfl ?_
    refine r_iload_n dX10_valueHere_95 rfl ?_
    refine r_iconst (v := nI 1) dX10_valueHere_96 (by decide) ?_
    refine r_icmp_ne (tgt := 104) dX10_valueHere_97 (by decide) (fun _ => ?_) (fun hz => absurd hz (show ¬ _ from (by decide)))
    refine r_iload_n dX10_valueHere_104 rfl ?_
    refine r_iconst (v := nI 2) dX10_valueHere_105 (by decide) ?_
    refine r_icmp_ne (tgt := 113) dX10_valueHere_106 (by decide) (fun _ => ?_) (fun hz => absurd hz (show ¬ _ from (by decide)))
    refine r_iconst (v := nI 0) dX10_valueHere_113 (by decide) ?_
    refine r_iadd dX10_valueHere_114 ?_
    rw [nI_add]
    refine r_istore_n dX10_valueHere_115 (by decide) ?_
    refine r_iload_n dX10_valueHere_116 rfl ?_
    refine r_iconst (v := nI 2) dX10_valueHere_117 (by decide) ?_
    refine r_icmp_le (tgt := 127) dX10_valueHere_118 (by decide) (fun _ => ?_) (fun hz => absurd (show _ from (by decide)) hz)
    refine r_iconst (v := nI 1) dX10_valueHere_127 (by decide) ?_
    refine r_goto (tgt := 132) dX10_valueHere_128 (by decide) ?_
    refine r_istore_n dX10_valueHere_132 (by decide) ?_
    refine RuZ.mono (w_valL (I0 := I) (J0 := J) (a := h + 0) hM hT (by omega) hg0 eFr.rf) (fun z n1 kd1 I1 J1 P1 hz => ?_)
    obtain ⟨g1, g2, g3, g4, g5, g6⟩ := hz
    exact ⟨g1, g2, g3, g4, g5, fun _ => g6, fun q => absurd rfl q⟩
  by_cases c137 : tkK T i = nI 137
  · have hkw : kwI (tkK T i) = nI 1 := by rw [c137]; rfl
    by_cases h0 : h = 0
    · rw [paw_w (h := h) (c := 0) c137 (by decide) (by decide) (by rw [h0]; rfl) (by decide)]
      refine r_aload_n dX10_valueHere_0 rfl ?_
      refine r_virtE (c_known m (kwI (tkK T i)) hM hk.2.2.1.symm) lk_X10_262 mc_X10_knownWord dX10_valueHere_1 (kM_0 hM) (by decide) rfl rfl (Nat.le_of_ble_eq_true rfl) ?_
      rw [hkw]
      refine r_istore_n dX10_valueHere_4 (by decide) ?_
      refine r_iload_n dX10_valueHere_5 rfl ?_
      refine r_if_lt (tgt := 15) dX10_valueHere_6 (by decide) (fun hz => absurd hz (show ¬ _ from (by decide))) (fun _ => ?_)
      refine r_iload_n dX10_valueHere_9 rfl ?_
      refine r_bipush (v := nI 6) dX10_valueHere_10 (by decide) ?_
      refine r_icmp_le (tgt := 20) dX10_valueHere_12 (by decide) (fun _ => ?_) (fun hz => absurd (show _ from (by decide)) hz)
      refine r_aload_n dX10_valueHere_20 rfl ?_
      refine r_virtE (c_good m hM) lk_X10_252 mc_X10_isGood dX10_valueHere_21 (kM_0 hM) (by decide) rfl rfl (Nat.le_of_ble_eq_true rfl) ?_
      rw [h16, show decide (nI 0 = 0) = true from rfl]
      refine r_if_ne (tgt := 28) dX10_valueHere_24 (by decide) (fun _ => ?_) (fun hz => absurd hz (show ¬ _ from (by decide)))
      refine r_aload_n dX10_valueHere_28 rfl ?_
      refine r_getI dX10_valueHere_29 fl_X10_266 rfl (kM_0 hM) ?_
      rw [h27]
      refine r_istore_n dX10_valueHere_32 (by decide) ?_
      refine r_iload_n dX10_valueHere_33 rfl ?_
      refine r_bipush (v := nI 6) dX10_valueHere_34 (by decide) ?_
      refine r_icmp_ne (tgt := 94) dX10_valueHere_36 (by decide) (fun _ => ?_) (fun hz => absurd hz (show ¬ _ from (by decide)))
      refine r_iload_n dX10_valueHere_94 rfl ?_
      refine r_iload_n dX10_valueHere_95 rfl ?_
      refine r_iconst (v := nI 1) dX10_valueHere_96 (by decide) ?_
      refine r_icmp_ne (tgt := 104) dX10_valueHere_97 (by decide) (fun hz => absurd (show _ from rfl) hz) (fun _ => ?_)
      refine r_iconst (v := (-1)) dX10_valueHere_100 (by decide) ?_
      refine r_goto (tgt := 114) dX10_valueHere_101 (by decide) ?_
      refine r_iadd dX10_valueHere_114 ?_
      rw [show nI h + (-1) = -1 from by rw [h0]; decide]
      refine r_istore_n dX10_valueHere_115 (by decide) ?_
      refine r_iload_n dX10_valueHere_116 rfl ?_
      refine r_iconst (v := nI 2) dX10_valueHere_117 (by decide) ?_
      refine r_icmp_le (tgt := 127) dX10_valueHere_118 (by decide) (fun _ => ?_) (fun hz => absurd (show _ from (by decide)) hz)
      refine r_iconst (v := nI 1) dX10_valueHere_127 (by decide) ?_
      refine r_goto (tgt := 132) dX10_valueHere_128 (by decide) ?_
      refine r_istore_n dX10_valueHere_132 (by decide) ?_
      refine RuZ.mono (w_valB (I0 := I) (J0 := J) hM hT hg0 eFr.rf) (fun z n1 kd1 I1 J1 P1 hz => ?_)
      obtain ⟨g1, g2, g3, g4, g5, g6⟩ := hz
      exact ⟨g1, g2, g3, g4, g5, fun _ => g6, fun q => absurd rfl q⟩
    · rw [paw_w (h := h) (c := 10000 + (h - 1)) c137 (by decide) (by decide) (by show (if h = 0 then nI 0 else nI (10000 + h - 1)) = _; rw [if_neg h0, show 10000 + h - 1 = 10000 + (h - 1) by omega]) (by omega)]
      refine r_aload_n dX10_valueHere_0 rfl ?_
      refine r_virtE (c_known m (kwI (tkK T i)) hM hk.2.2.1.symm) lk_X10_262 mc_X10_knownWord dX10_valueHere_1 (kM_0 hM) (by decide) rfl rfl (Nat.le_of_ble_eq_true rfl) ?_
      rw [hkw]
      refine r_istore_n dX10_valueHere_4 (by decide) ?_
      refine r_iload_n dX10_valueHere_5 rfl ?_
      refine r_if_lt (tgt := 15) dX10_valueHere_6 (by decide) (fun hz => absurd hz (show ¬ _ from (by decide))) (fun _ => ?_)
      refine r_iload_n dX10_valueHere_9 rfl ?_
      refine r_bipush (v := nI 6) dX10_valueHere_10 (by decide) ?_
      refine r_icmp_le (tgt := 20) dX10_valueHere_12 (by decide) (fun _ => ?_) (fun hz => absurd (show _ from (by decide)) hz)
      refine r_aload_n dX10_valueHere_20 rfl ?_
      refine r_virtE (c_good m hM) lk_X10_252 mc_X10_isGood dX10_valueHere_21 (kM_0 hM) (by decide) rfl rfl (Nat.le_of_ble_eq_true rfl) ?_
      rw [h16, show decide (nI 0 = 0) = true from rfl]
      refine r_if_ne (tgt := 28) dX10_valueHere_24 (by decide) (fun _ => ?_) (fun hz => absurd hz (show ¬ _ from (by decide)))
      refine r_aload_n dX10_valueHere_28 rfl ?_
      refine r_getI dX10_valueHere_29 fl_X10_266 rfl (kM_0 hM) ?_
      rw [h27]
      refine r_istore_n dX10_valueHere_32 (by decide) ?_
      refine r_iload_n dX10_valueHere_33 rfl ?_
      refine r_bipush (v := nI 6) dX10_valueHere_34 (by decide) ?_
      refine r_icmp_ne (tgt := 94) dX10_valueHere_36 (by decide) (fun _ => ?_) (fun hz => absurd hz (show ¬ _ from (by decide)))
      refine r_iload_n dX10_valueHere_94 rfl ?_
      refine r_iload_n dX10_valueHere_95 rfl ?_
      refine r_iconst (v := nI 1) dX10_valueHere_96 (by decide) ?_
      refine r_icmp_ne (tgt := 104) dX10_valueHere_97 (by decide) (fun hz => absurd (show _ from rfl) hz) (fun _ => ?_)
      refine r_iconst (v := (-1)) dX10_valueHere_100 (by decide) ?_
      refine r_goto (tgt := 114) dX10_valueHere_101 (by decide) ?_
      refine r_iadd dX10_valueHere_114 ?_
      rw [show nI h + (-1) = nI (h - 1) from by rw [show h = (h - 1) + 1 by omega, Nat.add_sub_cancel]; exact nI_dec _]
      refine r_istore_n dX10_valueHere_115 (by decide) ?_
      refine r_iload_n dX10_valueHere_116 rfl ?_
      refine r_iconst (v := nI 2) dX10_valueHere_117 (by decide) ?_
      refine r_icmp_le (tgt := 127) dX10_valueHere_118 (by decide) (fun _ => ?_) (fun hz => absurd (show _ from (by decide)) hz)
      refine r_iconst (v := nI 1) dX10_valueHere_127 (by decide) ?_
      refine r_goto (tgt := 132) dX10_valueHere_128 (by decide) ?_
      refine r_istore_n dX10_valueHere_132 (by decide) ?_
      refine RuZ.mono (w_valL (I0 := I) (J0 := J) (a := h - 1) hM hT (by omega) hg0 eFr.rf) (fun z n1 kd1 I1 J1 P1 hz => ?_)
      obtain ⟨g1, g2, g3, g4, g5, g6⟩ := hz
      exact ⟨g1, g2, g3, g4, g5, fun _ => g6, fun q => absurd rfl q⟩
  by_cases c138 : tkK T i = nI 138
  · have hkw : kwI (tkK T i) = nI 2 := by rw [c138]; rfl
    rw [paw_w (h := h) (c := 10000 + (h + 1)) c138 (by decide) (by decide) (by rfl) (by omega)]
    refine r_aload_n dX10_valueHere_0 rfl ?_
    refine r_virtE (c_known m (kwI (tkK T i)) hM hk.2.2.1.symm) lk_X10_262 mc_X10_knownWord dX10_valueHere_1 (kM_0 hM) (by decide) rfl rfl (Nat.le_of_ble_eq_true rfl) ?_
    rw [hkw]
    refine r_istore_n dX10_valueHere_4 (by decide) ?_
    refine r_iload_n dX10_valueHere_5 rfl ?_
    refine r_if_lt (tgt := 15) dX10_valueHere_6 (by decide) (fun hz => absurd hz (show ¬ _ from (by decide))) (fun _ => ?_)
    refine r_iload_n dX10_valueHere_9 rfl ?_
    refine r_bipush (v := nI 6) dX10_valueHere_10 (by decide) ?_
    refine r_icmp_le (tgt := 20) dX10_valueHere_12 (by decide) (fun _ => ?_) (fun hz => absurd (show _ from (by decide)) hz)
    refine r_aload_n dX10_valueHere_20 rfl ?_
    refine r_virtE (c_good m hM) lk_X10_252 mc_X10_isGood dX10_valueHere_21 (kM_0 hM) (by decide) rfl rfl (Nat.le_of_ble_eq_true rfl) ?_
    rw [h16, show decide (nI 0 = 0) = true from rfl]
    refine r_if_ne (tgt := 28) dX10_valueHere_24 (by decide) (fun _ => ?_) (fun hz => absurd hz (show ¬ _ from (by decide)))
    refine r_aload_n dX10_valueHere_28 rfl ?_
    refine r_getI dX10_valueHere_29 fl_X10_266 rfl (kM_0 hM) ?_
    rw [h27]
    refine r_istore_n dX10_valueHere_32 (by decide) ?_
    refine r_iload_n dX10_valueHere_33 rfl ?_
    refine r_bipush (v := nI 6) dX10_valueHere_34 (by decide) ?_
    refine r_icmp_ne (tgt := 94) dX10_valueHere_36 (by decide) (fun _ => ?_) (fun hz => absurd hz (show ¬ _ from (by decide)))
    refine r_iload_n dX10_valueHere_94 rfl ?_
    refine r_iload_n dX10_valueHere_95 rfl ?_
    refine r_iconst (v := nI 1) dX10_valueHere_96 (by decide) ?_
    refine r_icmp_ne (tgt := 104) dX10_valueHere_97 (by decide) (fun _ => ?_) (fun hz => absurd hz (show ¬ _ from (by decide)))
    refine r_iload_n dX10_valueHere_104 rfl ?_
    refine r_iconst (v := nI 2) dX10_valueHere_105 (by decide) ?_
    refine r_icmp_ne (tgt := 113) dX10_valueHere_106 (by decide) (fun hz => absurd (show _ from rfl) hz) (fun _ => ?_)
    refine r_iconst (v := nI 1) dX10_valueHere_109 (by decide) ?_
    refine r_goto (tgt := 114) dX10_valueHere_110 (by decide) ?_
    refine r_iadd dX10_valueHere_114 ?_
    rw [nI_add]
    refine r_istore_n dX10_valueHere_115 (by decide) ?_
    refine r_iload_n dX10_valueHere_116 rfl ?_
    refine r_iconst (v := nI 2) dX10_valueHere_117 (by decide) ?_
    refine r_icmp_le (tgt := 127) dX10_valueHere_118 (by decide) (fun _ => ?_) (fun hz => absurd (show _ from (by decide)) hz)
    refine r_iconst (v := nI 1) dX10_valueHere_127 (by decide) ?_
    refine r_goto (tgt := 132) dX10_valueHere_128 (by decide) ?_
    refine r_istore_n dX10_valueHere_132 (by decide) ?_
    refine RuZ.mono (w_valL (I0 := I) (J0 := J) (a := h + 1) hM hT (by omega) hg0 eFr.rf) (fun z n1 kd1 I1 J1 P1 hz => ?_)
    obtain ⟨g1, g2, g3, g4, g5, g6⟩ := hz
    exact ⟨g1, g2, g3, g4, g5, fun _ => g6, fun q => absurd rfl q⟩
  by_cases c139 : tkK T i = nI 139
  · have hkw : kwI (tkK T i) = nI 3 := by rw [c139]; rfl
    rw [paw_w (h := h) (c := 20000) c139 (by decide) (by decide) rfl (by decide)]
    refine r_aload_n dX10_valueHere_0 rfl ?_
    refine r_virtE (c_known m (kwI (tkK T i)) hM hk.2.2.1.symm) lk_X10_262 mc_X10_knownWord dX10_valueHere_1 (kM_0 hM) (by decide) rfl rfl (Nat.le_of_ble_eq_true rfl) ?_
    rw [hkw]
    refine r_istore_n dX10_valueHere_4 (by decide) ?_
    refine r_iload_n dX10_valueHere_5 rfl ?_
    refine r_if_lt (tgt := 15) dX10_valueHere_6 (by decide) (fun hz => absurd hz (show ¬ _ from (by decide))) (fun _ => ?_)
    refine r_iload_n dX10_valueHere_9 rfl ?_
    refine r_bipush (v := nI 6) dX10_valueHere_10 (by decide) ?_
    refine r_icmp_le (tgt := 20) dX10_valueHere_12 (by decide) (fun _ => ?_) (fun hz => absurd (show _ from (by decide)) hz)
    refine r_aload_n dX10_valueHere_20 rfl ?_
    refine r_virtE (c_good m hM) lk_X10_252 mc_X10_isGood dX10_valueHere_21 (kM_0 hM) (by decide) rfl rfl (Nat.le_of_ble_eq_true rfl) ?_
    rw [h16, show decide (nI 0 = 0) = true from rfl]
    refine r_if_ne (tgt := 28) dX10_valueHere_24 (by decide) (fun _ => ?_) (fun hz => absurd hz (show ¬ _ from (by decide)))
    refine r_aload_n dX10_valueHere_28 rfl ?_
    refine r_getI dX10_valueHere_29 fl_X10_266 rfl (kM_0 hM) ?_
    rw [h27]
    refine r_istore_n dX10_valueHere_32 (by decide) ?_
    refine r_iload_n dX10_valueHere_33 rfl ?_
    refine r_bipush (v := nI 6) dX10_valueHere_34 (by decide) ?_
    refine r_icmp_ne (tgt := 94) dX10_valueHere_36 (by decide) (fun _ => ?_) (fun hz => absurd hz (show ¬ _ from (by decide)))
    refine r_iload_n dX10_valueHere_94 rfl ?_
    refine r_iload_n dX10_valueHere_95 rfl ?_
    refine r_iconst (v := nI 1) dX10_valueHere_96 (by decide) ?_
    refine r_icmp_ne (tgt := 104) dX10_valueHere_97 (by decide) (fun _ => ?_) (fun hz => absurd hz (show ¬ _ from (by decide)))
    refine r_iload_n dX10_valueHere_104 rfl ?_
    refine r_iconst (v := nI 2) dX10_valueHere_105 (by decide) ?_
    refine r_icmp_ne (tgt := 113) dX10_valueHere_106 (by decide) (fun _ => ?_) (fun hz => absurd hz (show ¬ _ from (by decide)))
    refine r_iconst (v := nI 0) dX10_valueHere_113 (by decide) ?_
    refine r_iadd dX10_valueHere_114 ?_
    rw [nI_add]
    refine r_istore_n dX10_valueHere_115 (by decide) ?_
    refine r_iload_n dX10_valueHere_116 rfl ?_
    refine r_iconst (v := nI 2) dX10_valueHere_117 (by decide) ?_
    refine r_icmp_le (tgt := 127) dX10_valueHere_118 (by decide) (fun hz => absurd hz (show ¬ _ from (by decide))) (fun _ => ?_)
    refine r_iload_n dX10_valueHere_121 rfl ?_
    refine r_bipush (v := nI 6) dX10_valueHere_122 (by decide) ?_
    refine r_icmp_ne (tgt := 131) dX10_valueHere_124 (by decide) (fun _ => ?_) (fun hz => absurd hz (show ¬ _ from (by decide)))
    refine r_iconst (v := nI 0) dX10_valueHere_131 (by decide) ?_
    refine r_istore_n dX10_valueHere_132 (by decide) ?_
    refine RuZ.mono (w_valN (I0 := I) (J0 := J) (q := 3) hM hT (by decide) hg0 eFr.rf) (fun z n1 kd1 I1 J1 P1 hz => ?_)
    obtain ⟨g1, g2, g3, g4, g5, g6⟩ := hz
    exact ⟨g1, g2, g3, g4, g5, fun _ => g6, fun q => absurd rfl q⟩
  by_cases c140 : tkK T i = nI 140
  · have hkw : kwI (tkK T i) = nI 4 := by rw [c140]; rfl
    rw [paw_w (h := h) (c := 20001) c140 (by decide) (by decide) rfl (by decide)]
    refine r_aload_n dX10_valueHere_0 rfl ?_
    refine r_virtE (c_known m (kwI (tkK T i)) hM hk.2.2.1.symm) lk_X10_262 mc_X10_knownWord dX10_valueHere_1 (kM_0 hM) (by decide) rfl rfl (Nat.le_of_ble_eq_true rfl) ?_
    rw [hkw]
    refine r_istore_n dX10_valueHere_4 (by decide) ?_
    refine r_iload_n dX10_valueHere_5 rfl ?_
    refine r_if_lt (tgt := 15) dX10_valueHere_6 (by decide) (fun hz => absurd hz (show ¬ _ from (by decide))) (fun _ => ?_)
    refine r_iload_n dX10_valueHere_9 rfl ?_
    refine r_bipush (v := nI 6) dX10_valueHere_10 (by decide) ?_
    refine r_icmp_le (tgt := 20) dX10_valueHere_12 (by decide) (fun _ => ?_) (fun hz => absurd (show _ from (by decide)) hz)
    refine r_aload_n dX10_valueHere_20 rfl ?_
    refine r_virtE (c_good m hM) lk_X10_252 mc_X10_isGood dX10_valueHere_21 (kM_0 hM) (by decide) rfl rfl (Nat.le_of_ble_eq_true rfl) ?_
    rw [h16, show decide (nI 0 = 0) = true from rfl]
    refine r_if_ne (tgt := 28) dX10_valueHere_24 (by decide) (fun _ => ?_) (fun hz => absurd hz (show ¬ _ from (by decide)))
    refine r_aload_n dX10_valueHere_28 rfl ?_
    refine r_getI dX10_valueHere_29 fl_X10_266 rfl (kM_0 hM) ?_
    rw [h27]
    refine r_istore_n dX10_valueHere_32 (by decide) ?_
    refine r_iload_n dX10_valueHere_33 rfl ?_
    refine r_bipush (v := nI 6) dX10_valueHere_34 (by decide) ?_
    refine r_icmp_ne (tgt := 94) dX10_valueHere_36 (by decide) (fun _ => ?_) (fun hz => absurd hz (show ¬ _ from (by decide)))
    refine r_iload_n dX10_valueHere_94 rfl ?_
    refine r_iload_n dX10_valueHere_95 rfl ?_
    refine r_iconst (v := nI 1) dX10_valueHere_96 (by decide) ?_
    refine r_icmp_ne (tgt := 104) dX10_valueHere_97 (by decide) (fun _ => ?_) (fun hz => absurd hz (show ¬ _ from (by decide)))
    refine r_iload_n dX10_valueHere_104 rfl ?_
    refine r_iconst (v := nI 2) dX10_valueHere_105 (by decide) ?_
    refine r_icmp_ne (tgt := 113) dX10_valueHere_106 (by decide) (fun _ => ?_) (fun hz => absurd hz (show ¬ _ from (by decide)))
    refine r_iconst (v := nI 0) dX10_valueHere_113 (by decide) ?_
    refine r_iadd dX10_valueHere_114 ?_
    rw [nI_add]
    refine r_istore_n dX10_valueHere_115 (by decide) ?_
    refine r_iload_n dX10_valueHere_116 rfl ?_
    refine r_iconst (v := nI 2) dX10_valueHere_117 (by decide) ?_
    refine r_icmp_le (tgt := 127) dX10_valueHere_118 (by decide) (fun hz => absurd hz (show ¬ _ from (by decide))) (fun _ => ?_)
    refine r_iload_n dX10_valueHere_121 rfl ?_
    refine r_bipush (v := nI 6) dX10_valueHere_122 (by decide) ?_
    refine r_icmp_ne (tgt := 131) dX10_valueHere_124 (by decide) (fun _ => ?_) (fun hz => absurd hz (show ¬ _ from (by decide)))
    refine r_iconst (v := nI 0) dX10_valueHere_131 (by decide) ?_
    refine r_istore_n dX10_valueHere_132 (by decide) ?_
    refine RuZ.mono (w_valN (I0 := I) (J0 := J) (q := 4) hM hT (by decide) hg0 eFr.rf) (fun z n1 kd1 I1 J1 P1 hz => ?_)
    obtain ⟨g1, g2, g3, g4, g5, g6⟩ := hz
    exact ⟨g1, g2, g3, g4, g5, fun _ => g6, fun q => absurd rfl q⟩
  by_cases c129 : tkK T i = nI 129
  · have hkw : kwI (tkK T i) = nI 5 := by rw [c129]; rfl
    rw [paw_w (h := h) (c := 20002) c129 (by decide) (by decide) rfl (by decide)]
    refine r_aload_n dX10_valueHere_0 rfl ?_
    refine r_virtE (c_known m (kwI (tkK T i)) hM hk.2.2.1.symm) lk_X10_262 mc_X10_knownWord dX10_valueHere_1 (kM_0 hM) (by decide) rfl rfl (Nat.le_of_ble_eq_true rfl) ?_
    rw [hkw]
    refine r_istore_n dX10_valueHere_4 (by decide) ?_
    refine r_iload_n dX10_valueHere_5 rfl ?_
    refine r_if_lt (tgt := 15) dX10_valueHere_6 (by decide) (fun hz => absurd hz (show ¬ _ from (by decide))) (fun _ => ?_)
    refine r_iload_n dX10_valueHere_9 rfl ?_
    refine r_bipush (v := nI 6) dX10_valueHere_10 (by decide) ?_
    refine r_icmp_le (tgt := 20) dX10_valueHere_12 (by decide) (fun _ => ?_) (fun hz => absurd (show _ from (by decide)) hz)
    refine r_aload_n dX10_valueHere_20 rfl ?_
    refine r_virtE (c_good m hM) lk_X10_252 mc_X10_isGood dX10_valueHere_21 (kM_0 hM) (by decide) rfl rfl (Nat.le_of_ble_eq_true rfl) ?_
    rw [h16, show decide (nI 0 = 0) = true from rfl]
    refine r_if_ne (tgt := 28) dX10_valueHere_24 (by decide) (fun _ => ?_) (fun hz => absurd hz (show ¬ _ from (by decide)))
    refine r_aload_n dX10_valueHere_28 rfl ?_
    refine r_getI dX10_valueHere_29 fl_X10_266 rfl (kM_0 hM) ?_
    rw [h27]
    refine r_istore_n dX10_valueHere_32 (by decide) ?_
    refine r_iload_n dX10_valueHere_33 rfl ?_
    refine r_bipush (v := nI 6) dX10_valueHere_34 (by decide) ?_
    refine r_icmp_ne (tgt := 94) dX10_valueHere_36 (by decide) (fun _ => ?_) (fun hz => absurd hz (show ¬ _ from (by decide)))
    refine r_iload_n dX10_valueHere_94 rfl ?_
    refine r_iload_n dX10_valueHere_95 rfl ?_
    refine r_iconst (v := nI 1) dX10_valueHere_96 (by decide) ?_
    refine r_icmp_ne (tgt := 104) dX10_valueHere_97 (by decide) (fun _ => ?_) (fun hz => absurd hz (show ¬ _ from (by decide)))
    refine r_iload_n dX10_valueHere_104 rfl ?_
    refine r_iconst (v := nI 2) dX10_valueHere_105 (by decide) ?_
    refine r_icmp_ne (tgt := 113) dX10_valueHere_106 (by decide) (fun _ => ?_) (fun hz => absurd hz (show ¬ _ from (by decide)))
    refine r_iconst (v := nI 0) dX10_valueHere_113 (by decide) ?_
    refine r_iadd dX10_valueHere_114 ?_
    rw [nI_add]
    refine r_istore_n dX10_valueHere_115 (by decide) ?_
    refine r_iload_n dX10_valueHere_116 rfl ?_
    refine r_iconst (v := nI 2) dX10_valueHere_117 (by decide) ?_
    refine r_icmp_le (tgt := 127) dX10_valueHere_118 (by decide) (fun hz => absurd hz (show ¬ _ from (by decide))) (fun _ => ?_)
    refine r_iload_n dX10_valueHere_121 rfl ?_
    refine r_bipush (v := nI 6) dX10_valueHere_122 (by decide) ?_
    refine r_icmp_ne (tgt := 131) dX10_valueHere_124 (by decide) (fun _ => ?_) (fun hz => absurd hz (show ¬ _ from (by decide)))
    refine r_iconst (v := nI 0) dX10_valueHere_131 (by decide) ?_
    refine r_istore_n dX10_valueHere_132 (by decide) ?_
    refine RuZ.mono (w_valN (I0 := I) (J0 := J) (q := 5) hM hT (by decide) hg0 eFr.rf) (fun z n1 kd1 I1 J1 P1 hz => ?_)
    obtain ⟨g1, g2, g3, g4, g5, g6⟩ := hz
    exact ⟨g1, g2, g3, g4, g5, fun _ => g6, fun q => absurd rfl q⟩
  by_cases c141 : tkK T i = nI 141
  · have hkw : kwI (tkK T i) = nI 6 := by rw [c141]; rfl
    have hi2 : i + 1 < T.2.1 := hT.1.2.1 i (by rw [c141]; decide)
    have hpa : pAtom T h i = (if ¬ tkK T (i + 1) = nI 2 then (1, i + 1, []) else if 4 < tkL T (i + 1) then (2, i + 1, []) else if nI 7 < tkV T (i + 1) then (2, i + 1, []) else (0, i + 2, [10000 + nO (tkV T (i + 1))])) := by
      unfold pAtom
      rw [if_neg (by rw [c141]; decide), if_pos c141]
    by_cases k2 : tkK T (i + 1) = nI 2
    · rw [if_neg (fun q => q k2)] at hpa
      have hn := hT.1.2.2 (i + 1) k2
      by_cases l4 : 4 < tkL T (i + 1)
      · rw [hpa, if_pos l4]
        refine r_aload_n dX10_valueHere_0 rfl ?_
        refine r_virtE (c_known m (kwI (tkK T i)) hM hk.2.2.1.symm) lk_X10_262 mc_X10_knownWord dX10_valueHere_1 (kM_0 hM) (by decide) rfl rfl (Nat.le_of_ble_eq_true rfl) ?_
        rw [hkw]
        refine r_istore_n dX10_valueHere_4 (by decide) ?_
        refine r_iload_n dX10_valueHere_5 rfl ?_
        refine r_if_lt (tgt := 15) dX10_valueHere_6 (by decide) (fun hz => absurd hz (show ¬ _ from (by decide))) (fun _ => ?_)
        refine r_iload_n dX10_valueHere_9 rfl ?_
        refine r_bipush (v := nI 6) dX10_valueHere_10 (by decide) ?_
        refine r_icmp_le (tgt := 20) dX10_valueHere_12 (by decide) (fun _ => ?_) (fun hz => absurd (show _ from (by decide)) hz)
        refine r_aload_n dX10_valueHere_20 rfl ?_
        refine r_virtE (c_good m hM) lk_X10_252 mc_X10_isGood dX10_valueHere_21 (kM_0 hM) (by decide) rfl rfl (Nat.le_of_ble_eq_true rfl) ?_
        rw [h16, show decide (nI 0 = 0) = true from rfl]
        refine r_if_ne (tgt := 28) dX10_valueHere_24 (by decide) (fun _ => ?_) (fun hz => absurd hz (show ¬ _ from (by decide)))
        refine r_aload_n dX10_valueHere_28 rfl ?_
        refine r_getI dX10_valueHere_29 fl_X10_266 rfl (kM_0 hM) ?_
        rw [h27]
        refine r_istore_n dX10_valueHere_32 (by decide) ?_
        refine r_iload_n dX10_valueHere_33 rfl ?_
        refine r_bipush (v := nI 6) dX10_valueHere_34 (by decide) ?_
        refine r_icmp_ne (tgt := 94) dX10_valueHere_36 (by decide) (fun hz => absurd (show _ from rfl) hz) (fun _ => ?_)
        refine r_aload_n dX10_valueHere_39 rfl ?_
        refine r_virt (kc2 := 0) (ks2 := 0) (c_goesT m i hM hT hgi hk hi2) lk_X10_256 mc_X10_goes dX10_valueHere_40 (kM_0 hM) (by decide) rfl rfl (Nat.le_of_ble_eq_true rfl) (by decide) (by decide) (fun _ _ _ _ _ _ h => nomatch h.1) ?_
        rintro v1 n1 kd1 I1 J1 P1 ⟨h00, rfl, rfl, rfl, hf1, hk1⟩
        cases h00
        simp only [Option.toList, List.nil_append]
        have hg1 := hg0.nx (sl2 := 0) (by decide) hf1 hk1 hi2
        have hsl := srt_lt (tkK T (i + 1))
        have hs1 : I1 m 21 = nI (srt (tkK T (i + 1))) := hk1.2.2.2.1
        have hlb : tkL T (i + 1) < 2 ^ 31 := by have := hT.2.2 (i + 1) hi2; have := hg1.1.2.2.2.1; unfold tkL; omega
        refine r_aload_n dX10_valueHere_43 rfl ?_
        refine r_getI dX10_valueHere_44 fl_X10_226 rfl (kM_0 hM) ?_
        rw [hs1]
        refine r_iconst (v := nI 2) dX10_valueHere_47 (by decide) ?_
        refine r_icmp_eq (tgt := 59) dX10_valueHere_48 (by decide) (fun _ => ?_) (fun hz => absurd (show _ from (by rw [k2]; decide)) hz)
        refine r_aload_n dX10_valueHere_59 rfl ?_
        refine r_getI dX10_valueHere_60 fl_X10_236 rfl (kM_0 hM) ?_
        rw [show I1 m 23 = nI (tkL T (i + 1)) from (hk1.2.2.2.2.1 k2).1]
        refine r_iconst (v := nI 4) dX10_valueHere_63 (by decide) ?_
        refine r_icmp_gt (tgt := 76) dX10_valueHere_64 (by decide) (fun _ => ?_) (fun hz => absurd (show _ from (by rw [nI_ltI (by omega) (by omega)]; omega)) hz)
        refine r_aload_n dX10_valueHere_76 rfl ?_
        refine r_iconst (v := nI 2) dX10_valueHere_77 (by decide) ?_
        refine r_virtV (c_wrong m (nI 2) hM) lk_X10_259 mc_X10_wrong dX10_valueHere_78 (kM_0 hM) (by decide) rfl rfl (Nat.le_of_ble_eq_true rfl) ?_
        have hB := hg1.wrong hT (by decide) (f := 2) (by decide) (by decide)
        refine r_aload_n dX10_valueHere_81 rfl ?_
        refine r_virtE (c_good m hM) lk_X10_252 mc_X10_isGood dX10_valueHere_82 (kM_0 hM) (by decide) rfl rfl (Nat.le_of_ble_eq_true rfl) ?_
        rw [hB.bad]
        refine r_if_ne (tgt := 89) dX10_valueHere_85 (by decide) (fun hz => absurd (show _ from rfl) hz) (fun _ => ?_)
        refine r_vret rfl dX10_valueHere_88 ?_
        exact ⟨rfl, rfl, rfl, rfl, hf1.e.tr eFr.wr, fun q => absurd q (by decide), fun _ => hB⟩
      · have hv7 := hn (by omega)
        have hval : ∀ I1 J1, gTk m T.2.2.2.2.2 I1 J1 (tkAt T (i + 1)) → I1 m 24 = tkV T (i + 1) := fun I1 J1 hk1 => (hk1.2.2.2.2.1 k2).2 (by unfold tkL at l4; show T.2.2.2.2.1 (i + 1) - T.2.2.2.1 (i + 1) ≤ 4; omega)
        by_cases v7 : nI 7 < tkV T (i + 1)
        · rw [hpa, if_neg l4, if_pos v7]
          refine r_aload_n dX10_valueHere_0 rfl ?_
          refine r_virtE (c_known m (kwI (tkK T i)) hM hk.2.2.1.symm) lk_X10_262 mc_X10_knownWord dX10_valueHere_1 (kM_0 hM) (by decide) rfl rfl (Nat.le_of_ble_eq_true rfl) ?_
          rw [hkw]
          refine r_istore_n dX10_valueHere_4 (by decide) ?_
          refine r_iload_n dX10_valueHere_5 rfl ?_
          refine r_if_lt (tgt := 15) dX10_valueHere_6 (by decide) (fun hz => absurd hz (show ¬ _ from (by decide))) (fun _ => ?_)
          refine r_iload_n dX10_valueHere_9 rfl ?_
          refine r_bipush (v := nI 6) dX10_valueHere_10 (by decide) ?_
          refine r_icmp_le (tgt := 20) dX10_valueHere_12 (by decide) (fun _ => ?_) (fun hz => absurd (show _ from (by decide)) hz)
          refine r_aload_n dX10_valueHere_20 rfl ?_
          refine r_virtE (c_good m hM) lk_X10_252 mc_X10_isGood dX10_valueHere_21 (kM_0 hM) (by decide) rfl rfl (Nat.le_of_ble_eq_true rfl) ?_
          rw [h16, show decide (nI 0 = 0) = true from rfl]
          refine r_if_ne (tgt := 28) dX10_valueHere_24 (by decide) (fun _ => ?_) (fun hz => absurd hz (show ¬ _ from (by decide)))
          refine r_aload_n dX10_valueHere_28 rfl ?_
          refine r_getI dX10_valueHere_29 fl_X10_266 rfl (kM_0 hM) ?_
          rw [h27]
          refine r_istore_n dX10_valueHere_32 (by decide) ?_
          refine r_iload_n dX10_valueHere_33 rfl ?_
          refine r_bipush (v := nI 6) dX10_valueHere_34 (by decide) ?_
          refine r_icmp_ne (tgt := 94) dX10_valueHere_36 (by decide) (fun hz => absurd (show _ from rfl) hz) (fun _ => ?_)
          refine r_aload_n dX10_valueHere_39 rfl ?_
          refine r_virt (kc2 := 0) (ks2 := 0) (c_goesT m i hM hT hgi hk hi2) lk_X10_256 mc_X10_goes dX10_valueHere_40 (kM_0 hM) (by decide) rfl rfl (Nat.le_of_ble_eq_true rfl) (by decide) (by decide) (fun _ _ _ _ _ _ h => nomatch h.1) ?_
          rintro v1 n1 kd1 I1 J1 P1 ⟨h00, rfl, rfl, rfl, hf1, hk1⟩
          cases h00
          simp only [Option.toList, List.nil_append]
          have hg1 := hg0.nx (sl2 := 0) (by decide) hf1 hk1 hi2
          have hsl := srt_lt (tkK T (i + 1))
          have hs1 : I1 m 21 = nI (srt (tkK T (i + 1))) := hk1.2.2.2.1
          have hlb : tkL T (i + 1) < 2 ^ 31 := by have := hT.2.2 (i + 1) hi2; have := hg1.1.2.2.2.1; unfold tkL; omega
          refine r_aload_n dX10_valueHere_43 rfl ?_
          refine r_getI dX10_valueHere_44 fl_X10_226 rfl (kM_0 hM) ?_
          rw [hs1]
          refine r_iconst (v := nI 2) dX10_valueHere_47 (by decide) ?_
          refine r_icmp_eq (tgt := 59) dX10_valueHere_48 (by decide) (fun _ => ?_) (fun hz => absurd (show _ from (by rw [k2]; decide)) hz)
          refine r_aload_n dX10_valueHere_59 rfl ?_
          refine r_getI dX10_valueHere_60 fl_X10_236 rfl (kM_0 hM) ?_
          rw [show I1 m 23 = nI (tkL T (i + 1)) from (hk1.2.2.2.2.1 k2).1]
          refine r_iconst (v := nI 4) dX10_valueHere_63 (by decide) ?_
          refine r_icmp_gt (tgt := 76) dX10_valueHere_64 (by decide) (fun hz => absurd hz (show ¬ _ from (by rw [nI_ltI (by omega) (by omega)]; omega))) (fun _ => ?_)
          refine r_aload_n dX10_valueHere_67 rfl ?_
          refine r_getI dX10_valueHere_68 fl_X10_220 rfl (kM_0 hM) ?_
          rw [hval I1 J1 hk1]
          refine r_bipush (v := nI 7) dX10_valueHere_71 (by decide) ?_
          refine r_icmp_le (tgt := 81) dX10_valueHere_73 (by decide) (fun hz => absurd hz (show ¬ _ from (Int32.not_le.mpr v7))) (fun _ => ?_)
          refine r_aload_n dX10_valueHere_76 rfl ?_
          refine r_iconst (v := nI 2) dX10_valueHere_77 (by decide) ?_
          refine r_virtV (c_wrong m (nI 2) hM) lk_X10_259 mc_X10_wrong dX10_valueHere_78 (kM_0 hM) (by decide) rfl rfl (Nat.le_of_ble_eq_true rfl) ?_
          have hB := hg1.wrong hT (by decide) (f := 2) (by decide) (by decide)
          refine r_aload_n dX10_valueHere_81 rfl ?_
          refine r_virtE (c_good m hM) lk_X10_252 mc_X10_isGood dX10_valueHere_82 (kM_0 hM) (by decide) rfl rfl (Nat.le_of_ble_eq_true rfl) ?_
          rw [hB.bad]
          refine r_if_ne (tgt := 89) dX10_valueHere_85 (by decide) (fun hz => absurd (show _ from rfl) hz) (fun _ => ?_)
          refine r_vret rfl dX10_valueHere_88 ?_
          exact ⟨rfl, rfl, rfl, rfl, hf1.e.tr eFr.wr, fun q => absurd q (by decide), fun _ => hB⟩
        · rw [hpa, if_neg l4, if_neg v7]
          have hno := nO_le (K := 7) (by decide) hv7.1 v7
          obtain ⟨vv, hvv⟩ : ∃ vv, vv = nO (tkV T (i + 1)) := ⟨_, rfl⟩
          rw [← hvv] at hno ⊢
          refine r_aload_n dX10_valueHere_0 rfl ?_
          refine r_virtE (c_known m (kwI (tkK T i)) hM hk.2.2.1.symm) lk_X10_262 mc_X10_knownWord dX10_valueHere_1 (kM_0 hM) (by decide) rfl rfl (Nat.le_of_ble_eq_true rfl) ?_
          rw [hkw]
          refine r_istore_n dX10_valueHere_4 (by decide) ?_
          refine r_iload_n dX10_valueHere_5 rfl ?_
          refine r_if_lt (tgt := 15) dX10_valueHere_6 (by decide) (fun hz => absurd hz (show ¬ _ from (by decide))) (fun _ => ?_)
          refine r_iload_n dX10_valueHere_9 rfl ?_
          refine r_bipush (v := nI 6) dX10_valueHere_10 (by decide) ?_
          refine r_icmp_le (tgt := 20) dX10_valueHere_12 (by decide) (fun _ => ?_) (fun hz => absurd (show _ from (by decide)) hz)
          refine r_aload_n dX10_valueHere_20 rfl ?_
          refine r_virtE (c_good m hM) lk_X10_252 mc_X10_isGood dX10_valueHere_21 (kM_0 hM) (by decide) rfl rfl (Nat.le_of_ble_eq_true rfl) ?_
          rw [h16, show decide (nI 0 = 0) = true from rfl]
          refine r_if_ne (tgt := 28) dX10_valueHere_24 (by decide) (fun _ => ?_) (fun hz => absurd hz (show ¬ _ from (by decide)))
          refine r_aload_n dX10_valueHere_28 rfl ?_
          refine r_getI dX10_valueHere_29 fl_X10_266 rfl (kM_0 hM) ?_
          rw [h27]
          refine r_istore_n dX10_valueHere_32 (by decide) ?_
          refine r_iload_n dX10_valueHere_33 rfl ?_
          refine r_bipush (v := nI 6) dX10_valueHere_34 (by decide) ?_
          refine r_icmp_ne (tgt := 94) dX10_valueHere_36 (by decide) (fun hz => absurd (show _ from rfl) hz) (fun _ => ?_)
          refine r_aload_n dX10_valueHere_39 rfl ?_
          refine r_virt (kc2 := 0) (ks2 := 0) (c_goesT m i hM hT hgi hk hi2) lk_X10_256 mc_X10_goes dX10_valueHere_40 (kM_0 hM) (by decide) rfl rfl (Nat.le_of_ble_eq_true rfl) (by decide) (by decide) (fun _ _ _ _ _ _ h => nomatch h.1) ?_
          rintro v1 n1 kd1 I1 J1 P1 ⟨h00, rfl, rfl, rfl, hf1, hk1⟩
          cases h00
          simp only [Option.toList, List.nil_append]
          have hg1 := hg0.nx (sl2 := 0) (by decide) hf1 hk1 hi2
          have hsl := srt_lt (tkK T (i + 1))
          have hs1 : I1 m 21 = nI (srt (tkK T (i + 1))) := hk1.2.2.2.1
          have hlb : tkL T (i + 1) < 2 ^ 31 := by have := hT.2.2 (i + 1) hi2; have := hg1.1.2.2.2.1; unfold tkL; omega
          refine r_aload_n dX10_valueHere_43 rfl ?_
          refine r_getI dX10_valueHere_44 fl_X10_226 rfl (kM_0 hM) ?_
          rw [hs1]
          refine r_iconst (v := nI 2) dX10_valueHere_47 (by decide) ?_
          refine r_icmp_eq (tgt := 59) dX10_valueHere_48 (by decide) (fun _ => ?_) (fun hz => absurd (show _ from (by rw [k2]; decide)) hz)
          refine r_aload_n dX10_valueHere_59 rfl ?_
          refine r_getI dX10_valueHere_60 fl_X10_236 rfl (kM_0 hM) ?_
          rw [show I1 m 23 = nI (tkL T (i + 1)) from (hk1.2.2.2.2.1 k2).1]
          refine r_iconst (v := nI 4) dX10_valueHere_63 (by decide) ?_
          refine r_icmp_gt (tgt := 76) dX10_valueHere_64 (by decide) (fun hz => absurd hz (show ¬ _ from (by rw [nI_ltI (by omega) (by omega)]; omega))) (fun _ => ?_)
          refine r_aload_n dX10_valueHere_67 rfl ?_
          refine r_getI dX10_valueHere_68 fl_X10_220 rfl (kM_0 hM) ?_
          rw [hval I1 J1 hk1, hno.2]
          refine r_bipush (v := nI 7) dX10_valueHere_71 (by decide) ?_
          refine r_icmp_le (tgt := 81) dX10_valueHere_73 (by decide) (fun _ => ?_) (fun hz => absurd (show _ from ((nI_leI (by omega) (by decide)).mpr hno.1)) hz)
          refine r_aload_n dX10_valueHere_81 rfl ?_
          refine r_virtE (c_good m hM) lk_X10_252 mc_X10_isGood dX10_valueHere_82 (kM_0 hM) (by decide) rfl rfl (Nat.le_of_ble_eq_true rfl) ?_
          rw [hg1.1.1, show decide (nI 0 = 0) = true from rfl]
          refine r_if_ne (tgt := 89) dX10_valueHere_85 (by decide) (fun _ => ?_) (fun hz => absurd hz (show ¬ _ from (by decide)))
          refine r_aload_n dX10_valueHere_89 rfl ?_
          refine r_getI dX10_valueHere_90 fl_X10_220 rfl (kM_0 hM) ?_
          rw [hval I1 J1 hk1, hno.2]
          refine r_istore_n dX10_valueHere_93 (by decide) ?_
          refine r_iload_n dX10_valueHere_94 rfl ?_
          refine r_iload_n dX10_valueHere_95 rfl ?_
          refine r_iconst (v := nI 1) dX10_valueHere_96 (by decide) ?_
          refine r_icmp_ne (tgt := 104) dX10_valueHere_97 (by decide) (fun _ => ?_) (fun hz => absurd hz (show ¬ _ from (by decide)))
          refine r_iload_n dX10_valueHere_104 rfl ?_
          refine r_iconst (v := nI 2) dX10_valueHere_105 (by decide) ?_
          refine r_icmp_ne (tgt := 113) dX10_valueHere_106 (by decide) (fun _ => ?_) (fun hz => absurd hz (show ¬ _ from (by decide)))
          refine r_iconst (v := nI 0) dX10_valueHere_113 (by decide) ?_
          refine r_iadd dX10_valueHere_114 ?_
          rw [nI_add]
          refine r_istore_n dX10_valueHere_115 (by decide) ?_
          refine r_iload_n dX10_valueHere_116 rfl ?_
          refine r_iconst (v := nI 2) dX10_valueHere_117 (by decide) ?_
          refine r_icmp_le (tgt := 127) dX10_valueHere_118 (by decide) (fun hz => absurd hz (show ¬ _ from (by decide))) (fun _ => ?_)
          refine r_iload_n dX10_valueHere_121 rfl ?_
          refine r_bipush (v := nI 6) dX10_valueHere_122 (by decide) ?_
          refine r_icmp_ne (tgt := 131) dX10_valueHere_124 (by decide) (fun hz => absurd (show _ from rfl) hz) (fun _ => ?_)
          refine r_iconst (v := nI 1) dX10_valueHere_127 (by decide) ?_
          refine r_goto (tgt := 132) dX10_valueHere_128 (by decide) ?_
          refine r_istore_n dX10_valueHere_132 (by decide) ?_
          refine RuZ.mono (w_valL (I0 := I) (J0 := J) (a := vv + 0) hM hT (by omega) hg1 hf1.e) (fun z n1 kd1 I1 J1 P1 hz => ?_)
          obtain ⟨g1, g2, g3, g4, g5, g6⟩ := hz
          exact ⟨g1, g2, g3, g4, g5, fun _ => g6, fun q => absurd trivial q⟩
    · rw [if_pos k2] at hpa
      rw [hpa]
      refine r_aload_n dX10_valueHere_0 rfl ?_
      refine r_virtE (c_known m (kwI (tkK T i)) hM hk.2.2.1.symm) lk_X10_262 mc_X10_knownWord dX10_valueHere_1 (kM_0 hM) (by decide) rfl rfl (Nat.le_of_ble_eq_true rfl) ?_
      rw [hkw]
      refine r_istore_n dX10_valueHere_4 (by decide) ?_
      refine r_iload_n dX10_valueHere_5 rfl ?_
      refine r_if_lt (tgt := 15) dX10_valueHere_6 (by decide) (fun hz => absurd hz (show ¬ _ from (by decide))) (fun _ => ?_)
      refine r_iload_n dX10_valueHere_9 rfl ?_
      refine r_bipush (v := nI 6) dX10_valueHere_10 (by decide) ?_
      refine r_icmp_le (tgt := 20) dX10_valueHere_12 (by decide) (fun _ => ?_) (fun hz => absurd (show _ from (by decide)) hz)
      refine r_aload_n dX10_valueHere_20 rfl ?_
      refine r_virtE (c_good m hM) lk_X10_252 mc_X10_isGood dX10_valueHere_21 (kM_0 hM) (by decide) rfl rfl (Nat.le_of_ble_eq_true rfl) ?_
      rw [h16, show decide (nI 0 = 0) = true from rfl]
      refine r_if_ne (tgt := 28) dX10_valueHere_24 (by decide) (fun _ => ?_) (fun hz => absurd hz (show ¬ _ from (by decide)))
      refine r_aload_n dX10_valueHere_28 rfl ?_
      refine r_getI dX10_valueHere_29 fl_X10_266 rfl (kM_0 hM) ?_
      rw [h27]
      refine r_istore_n dX10_valueHere_32 (by decide) ?_
      refine r_iload_n dX10_valueHere_33 rfl ?_
      refine r_bipush (v := nI 6) dX10_valueHere_34 (by decide) ?_
      refine r_icmp_ne (tgt := 94) dX10_valueHere_36 (by decide) (fun hz => absurd (show _ from rfl) hz) (fun _ => ?_)
      refine r_aload_n dX10_valueHere_39 rfl ?_
      refine r_virt (kc2 := 0) (ks2 := 0) (c_goesT m i hM hT hgi hk hi2) lk_X10_256 mc_X10_goes dX10_valueHere_40 (kM_0 hM) (by decide) rfl rfl (Nat.le_of_ble_eq_true rfl) (by decide) (by decide) (fun _ _ _ _ _ _ h => nomatch h.1) ?_
      rintro v1 n1 kd1 I1 J1 P1 ⟨h00, rfl, rfl, rfl, hf1, hk1⟩
      cases h00
      simp only [Option.toList, List.nil_append]
      have hg1 := hg0.nx (sl2 := 0) (by decide) hf1 hk1 hi2
      have hsl := srt_lt (tkK T (i + 1))
      have hs1 : I1 m 21 = nI (srt (tkK T (i + 1))) := hk1.2.2.2.1
      have hlb : tkL T (i + 1) < 2 ^ 31 := by have := hT.2.2 (i + 1) hi2; have := hg1.1.2.2.2.1; unfold tkL; omega
      refine r_aload_n dX10_valueHere_43 rfl ?_
      refine r_getI dX10_valueHere_44 fl_X10_226 rfl (kM_0 hM) ?_
      rw [hs1]
      refine r_iconst (v := nI 2) dX10_valueHere_47 (by decide) ?_
      refine r_icmp_eq (tgt := 59) dX10_valueHere_48 (by decide) (fun hz => absurd hz (show ¬ _ from (fun z => k2 (srt_2 ((nI_eq (by omega) (by decide)).mp z))))) (fun _ => ?_)
      refine r_aload_n dX10_valueHere_51 rfl ?_
      refine r_iconst (v := nI 1) dX10_valueHere_52 (by decide) ?_
      refine r_virtV (c_wrong m (nI 1) hM) lk_X10_259 mc_X10_wrong dX10_valueHere_53 (kM_0 hM) (by decide) rfl rfl (Nat.le_of_ble_eq_true rfl) ?_
      have hB := hg1.wrong hT (by decide) (f := 1) (by decide) (by decide)
      refine r_goto (tgt := 81) dX10_valueHere_56 (by decide) ?_
      refine r_aload_n dX10_valueHere_81 rfl ?_
      refine r_virtE (c_good m hM) lk_X10_252 mc_X10_isGood dX10_valueHere_82 (kM_0 hM) (by decide) rfl rfl (Nat.le_of_ble_eq_true rfl) ?_
      rw [hB.bad]
      refine r_if_ne (tgt := 89) dX10_valueHere_85 (by decide) (fun hz => absurd (show _ from rfl) hz) (fun _ => ?_)
      refine r_vret rfl dX10_valueHere_88 ?_
      exact ⟨rfl, rfl, rfl, rfl, hf1.e.tr eFr.wr, fun q => absurd q (by decide), fun _ => hB⟩
  have hno : ¬ tkK T i = nI 2 := fun q => hw (by rw [q]; decide)
  rw [paw_o (h := h) c136 c137 c138 c139 c140 c129 c141 hno, if_neg hw]
  have hB := hg0.wrong hT (by decide) (f := 3) (by decide) (by decide)
  rcases kwI_o c136 c137 c138 c139 c140 c129 c141 with ho | ho
  · skip
    refine r_aload_n dX10_valueHere_0 rfl ?_
    refine r_virtE (c_known m (kwI (tkK T i)) hM hk.2.2.1.symm) lk_X10_262 mc_X10_knownWord dX10_valueHere_1 (kM_0 hM) (by decide) rfl rfl (Nat.le_of_ble_eq_true rfl) ?_
    refine r_istore_n dX10_valueHere_4 (by decide) ?_
    refine r_iload_n dX10_valueHere_5 rfl ?_
    refine r_if_lt (tgt := 15) dX10_valueHere_6 (by decide) (fun _ => ?_) (fun hz => absurd (show _ from ho) hz)
    refine r_aload_n dX10_valueHere_15 rfl ?_
    refine r_iconst (v := nI 3) dX10_valueHere_16 (by decide) ?_
    refine r_virtV (c_wrong m (nI 3) hM) lk_X10_259 mc_X10_wrong dX10_valueHere_17 (kM_0 hM) (by decide) rfl rfl (Nat.le_of_ble_eq_true rfl) ?_
    refine r_aload_n dX10_valueHere_20 rfl ?_
    refine r_virtE (c_good m hM) lk_X10_252 mc_X10_isGood dX10_valueHere_21 (kM_0 hM) (by decide) rfl rfl (Nat.le_of_ble_eq_true rfl) ?_
    rw [hB.bad]
    refine r_if_ne (tgt := 28) dX10_valueHere_24 (by decide) (fun hz => absurd (show _ from rfl) hz) (fun _ => ?_)
    refine r_vret rfl dX10_valueHere_27 ?_
    exact ⟨rfl, rfl, rfl, rfl, eFr.wr, fun q => absurd q (by show ¬ (3 : Nat) = 0; decide), fun _ => hB⟩
  · by_cases hlt : kwI (tkK T i) < 0
    · skip
      refine r_aload_n dX10_valueHere_0 rfl ?_
      refine r_virtE (c_known m (kwI (tkK T i)) hM hk.2.2.1.symm) lk_X10_262 mc_X10_knownWord dX10_valueHere_1 (kM_0 hM) (by decide) rfl rfl (Nat.le_of_ble_eq_true rfl) ?_
      refine r_istore_n dX10_valueHere_4 (by decide) ?_
      refine r_iload_n dX10_valueHere_5 rfl ?_
      refine r_if_lt (tgt := 15) dX10_valueHere_6 (by decide) (fun _ => ?_) (fun hz => absurd (show _ from hlt) hz)
      refine r_aload_n dX10_valueHere_15 rfl ?_
      refine r_iconst (v := nI 3) dX10_valueHere_16 (by decide) ?_
      refine r_virtV (c_wrong m (nI 3) hM) lk_X10_259 mc_X10_wrong dX10_valueHere_17 (kM_0 hM) (by decide) rfl rfl (Nat.le_of_ble_eq_true rfl) ?_
      refine r_aload_n dX10_valueHere_20 rfl ?_
      refine r_virtE (c_good m hM) lk_X10_252 mc_X10_isGood dX10_valueHere_21 (kM_0 hM) (by decide) rfl rfl (Nat.le_of_ble_eq_true rfl) ?_
      rw [hB.bad]
      refine r_if_ne (tgt := 28) dX10_valueHere_24 (by decide) (fun hz => absurd (show _ from rfl) hz) (fun _ => ?_)
      refine r_vret rfl dX10_valueHere_27 ?_
      exact ⟨rfl, rfl, rfl, rfl, eFr.wr, fun q => absurd q (by show ¬ (3 : Nat) = 0; decide), fun _ => hB⟩
    · skip
      refine r_aload_n dX10_valueHere_0 rfl ?_
      refine r_virtE (c_known m (kwI (tkK T i)) hM hk.2.2.1.symm) lk_X10_262 mc_X10_knownWord dX10_valueHere_1 (kM_0 hM) (by decide) rfl rfl (Nat.le_of_ble_eq_true rfl) ?_
      refine r_istore_n dX10_valueHere_4 (by decide) ?_
      refine r_iload_n dX10_valueHere_5 rfl ?_
      refine r_if_lt (tgt := 15) dX10_valueHere_6 (by decide) (fun hz => absurd hz (show ¬ _ from hlt)) (fun _ => ?_)
      refine r_iload_n dX10_valueHere_9 rfl ?_
      refine r_bipush (v := nI 6) dX10_valueHere_10 (by decide) ?_
      refine r_icmp_le (tgt := 20) dX10_valueHere_12 (by decide) (fun hz => absurd hz (show ¬ _ from (Int32.not_le.mpr ho))) (fun _ => ?_)
      refine r_aload_n dX10_valueHere_15 rfl ?_
      refine r_iconst (v := nI 3) dX10_valueHere_16 (by decide) ?_
      refine r_virtV (c_wrong m (nI 3) hM) lk_X10_259 mc_X10_wrong dX10_valueHere_17 (kM_0 hM) (by decide) rfl rfl (Nat.le_of_ble_eq_true rfl) ?_
      refine r_aload_n dX10_valueHere_20 rfl ?_
      refine r_virtE (c_good m hM) lk_X10_252 mc_X10_isGood dX10_valueHere_21 (kM_0 hM) (by decide) rfl rfl (Nat.le_of_ble_eq_true rfl) ?_
      rw [hB.bad]
      refine r_if_ne (tgt := 28) dX10_valueHere_24 (by decide) (fun hz => absurd (show _ from rfl) hz) (fun _ => ?_)
      refine r_vret rfl dX10_valueHere_27 ?_
      exact ⟨rfl, rfl, rfl, rfl, eFr.wr, fun q => absurd q (by show ¬ (3 : Nat) = 0; decide), fun _ => hB⟩


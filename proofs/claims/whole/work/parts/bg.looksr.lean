/-! LOOKING: the reference, on any state -/
theorem fdF_cg {q q' : Nat → Bool} : ∀ (k h : Nat), (∀ x, h ≤ x → x < h + k → q x = q' x) → fdF q k h = fdF q' k h
  | 0, _, _ => rfl
  | k + 1, h, e => by
    unfold fdF
    rw [e h (by omega) (by omega), fdF_cg k (h + 1) (fun x a b => e x (by omega) (by omega))]
theorem gB_min {W : Nat → Nat} : ∀ (H h : Nat), h < H → gB W 0 H ≤ 1 + W h
  | 0, _, hh => by omega
  | H + 1, h, hh => by
    unfold gB
    rw [if_neg (by rw [Nat.zero_testBit]; decide)]
    rcases Nat.lt_or_ge h H with q | q
    · have := gB_min (W := W) H h q
      omega
    · rw [show h = H by omega]
      omega
theorem ok_wl {nm : Nat → Nat → Nat} {c H M : Nat} {al pa : Nat → Nat → Nat} (hH : H ≤ 8) (hl : alO nm c H al) (hp : paO nm c H M pa) (hnm : ∀ i h, i < c → h < H → 1 ≤ nm i h ∧ nm i h ≤ M) {w n h : Nat} (h1 : ¬ one w = true) (hw : ∀ j, w.testBit j = true → j < c) (hh : h < H) (hn : n ≤ 7) : (List.range' 0 M).all (okf pa H M n w h) = true ↔ wl (gV al c H 7 (0 ||| 2 ^ h)) (al h) w c 0 0 w ≤ n := by
  have hnD : ¬ (0 : Nat).testBit h = true := by rw [Nat.zero_testBit]; decide
  have hpc := pc_or 0 (by decide) h (by omega) hnD
  have hp0 : pc8 0 = 0 := by decide
  have ha : agr nm H 0 w := fun i j h' _ hD => by rw [Nat.zero_testBit] at hD; exact nomatch hD
  rw [wl_le hn hw (fun i j hi hj q => by
    apply tb_ext; intro k; apply b_iff
    rw [hl h hh j k hj, hl h hh i k hi, ((hl h hh i j hi).mp q).2]) (fun i hi => (hl h hh i i hi).mpr ⟨hi, rfl⟩) c 0 0 w (by omega) (fun j hj => ⟨hj, Nat.zero_le j⟩)]
  rw [List.all_eq_true]
  constructor
  · intro hA
    refine ⟨Nat.zero_le n, fun j hj => ?_⟩
    have hb := hnm j h (hw j hj) hh
    rw [al_pa hl hp hh (hw j hj) hb.1 hb.2]
    have h2 := hA (nm j h - 1) (List.mem_range'_1.mpr (by omega))
    unfold okf at h2
    rw [show nm j h - 1 + 1 = nm j h by omega, Bool.or_eq_true, Bool.and_eq_true] at h2
    have h3 : ¬ (w &&& pa h (nm j h) = w) ∧ tl pa H M n (w &&& pa h (nm j h)) = true := by
      rcases h2 with h2 | h2
      · exact ⟨fun z => h1 (by rw [z] at h2; exact h2), tl_one h2⟩
      · exact ⟨by simpa using h2.1, h2.2⟩
    refine ⟨h3.1, ?_⟩
    rw [← tl_gV hH hl hp hnm 7 (0 ||| 2 ^ h) _ n hpc.2 (by omega) (ha.sub (pa_sub hp hh hb.1 hb.2)) (fun k hk => hw k (pa_sub hp hh hb.1 hb.2 k hk).1) hn]
    exact h3.2
  · intro hW v hv
    have hv := List.mem_range'_1.mp hv
    unfold okf
    by_cases h0 : w &&& pa h (v + 1) = 0
    · rw [h0]; rfl
    · obtain ⟨j, hj⟩ := Nat.exists_testBit_of_ne_zero h0
      have hj2 := pa_sub hp hh (by omega) (by omega) j hj
      have h3 := hW.2 j hj2.1
      rw [al_pa hl hp hh (hw j hj2.1) (by omega) (by omega), hj2.2] at h3
      rw [Bool.or_eq_true, Bool.and_eq_true]
      right
      refine ⟨by simp [h3.1], ?_⟩
      rw [tl_gV hH hl hp hnm 7 (0 ||| 2 ^ h) _ n hpc.2 (by omega) (ha.sub (pa_sub hp hh (by omega) (by omega))) (fun k hk => hw k (pa_sub hp hh (by omega) (by omega) k hk).1) hn]
      exact h3.2
theorem lk_eq {H M r h : Nat} {fs : List (Nat → Nat)} (hH : H ≤ 8) (hr : fRng H M fs) (h2 : 2 ≤ fs.length) (hL : r + 1 = lookV H fs) (hh : h < H) : (List.range' 0 M).all (okf (paF (nmF fs) fs.length) H M r (2 ^ fs.length - 1) h) = decide (1 + wlD H fs h = lookV H fs) := by
  have h8 := lookV_8 H fs
  have hm := gB_min (W := wlD H fs) H h hh
  rw [← lookV_gB h2] at hm
  have hk := ok_wl (n := r) hH (alF_O (nmF fs) fs.length H) (paF_O (nmF fs) fs.length H M) (fun i h hi hh => nmF_rng hr i h hi hh) (one_all h2) (fun j hj => by rw [Nat.testBit_two_pow_sub_one, decide_eq_true_iff] at hj; exact hj) hh (by omega)
  change _ ↔ wlD H fs h ≤ r at hk
  by_cases c : 1 + wlD H fs h = lookV H fs
  · rw [decide_eq_true c, hk.mpr (by omega)]
  · rw [decide_eq_false c]
    cases hx : (List.range' 0 M).all (okf (paF (nmF fs) fs.length) H M r (2 ^ fs.length - 1) h)
    · rfl
    · have := hk.mp hx
      omega

def LBq (m H M n0 w0 : Nat) (pa : Nat → Nat → Nat) (n : Nat) (kd : mK) (I : mI) (J : mJ) (P : mP) (post : am_Post) (F : Int32) (r p : Nat) : Prop := ∀ (w : Nat) (Am : Nat → Int64) (Dr Sh : Nat → Int32) (z6 z7 : Option Value), w < 2 ^ 40 → Am p = jN w → Dr p = nI 0 → Sh p = nI 0 → (((List.range' 0 H).any fun h => (List.range' 0 M).all (okf pa H M r w h)) = true → ∀ (Am' : Nat → Int64) (Dr' Sh' : Nat → Int32) (z6 z7 : Option Value), (∀ j, j < p → Am' j = Am j ∧ Dr' j = Dr j ∧ Sh' j = Sh j) → Ru yX10_tells.cls cX10_tells 8 (some .boolean) yX10_tells.name 2 (post) 0 0 75 [some (.ref m), some (.long (jN w0)), none, some (.int (nI n0)), some (.int F), some (.int (nI p)), z6, z7] [] n kd (tDS I m Dr' Sh') (va_up J (m + 29) Am') P) → (((List.range' 0 H).any fun h => (List.range' 0 M).all (okf pa H M r w h)) = false → ∀ (Am' : Nat → Int64) (Dr' Sh' : Nat → Int32) (z6 z7 : Option Value), (∀ j, j < p → Am' j = Am j ∧ Dr' j = Dr j ∧ Sh' j = Sh j) → Ru yX10_tells.cls cX10_tells 8 (some .boolean) yX10_tells.name 2 (post) 0 0 236 [some (.ref m), some (.long (jN w0)), none, some (.int (nI n0)), some (.int F), some (.int (nI p)), z6, z7] [] n kd (tDS I m Dr' Sh') (va_up J (m + 29) Am') P) → Ru yX10_tells.cls cX10_tells 8 (some .boolean) yX10_tells.name 2 (post) 0 0 50 [some (.ref m), some (.long (jN w0)), none, some (.int (nI n0)), some (.int F), some (.int (nI p)), z6, z7] [] n kd (tDS I m Dr Sh) (va_up J (m + 29) Am) P
set_option maxHeartbeats 4000000 in
set_option maxRecDepth 100000 in
theorem tf_shows (m H M n0 w0 : Nat) (pa : Nat → Nat → Nat) (n : Nat) (kd : mK) (I : mI) (J : mJ) (P : mP) (post : am_Post) (F : Int32) (hT : tsS m H M n0 w0 pa n kd I J P post) (r p w h : Nat) (hp : p + r + 1 = n0) (hw : w < 2 ^ 40) (hh : h < H) (hN : ∀ r2, r2 + 1 = r → LBq m H M n0 w0 pa n kd I J P post F r2 (p + 1)) : ∀ (cnt v : Nat) (Am : Nat → Int64) (Dr Sh : Nat → Int32) (z6 z7 : Option Value), v + cnt = M → Am p = jN w → Dr p = nI h → Sh p = nI v → ((List.range' v cnt).all (okf pa H M r w h) = true → ∀ (Am' : Nat → Int64) (Dr' Sh' : Nat → Int32) (z6 z7 : Option Value), (∀ j, j < p → Am' j = Am j ∧ Dr' j = Dr j ∧ Sh' j = Sh j) → Ru yX10_tells.cls cX10_tells 8 (some .boolean) yX10_tells.name 2 (post) 0 0 75 [some (.ref m), some (.long (jN w0)), none, some (.int (nI n0)), some (.int F), some (.int (nI p)), z6, z7] [] n kd (tDS I m Dr' Sh') (va_up J (m + 29) Am') P) → ((List.range' v cnt).all (okf pa H M r w h) = false → ∀ (Am' : Nat → Int64) (Dr' Sh' : Nat → Int32) (z6 z7 : Option Value), (∀ j, j < p → Am' j = Am j ∧ Dr' j = Dr j ∧ Sh' j = Sh j) → Am' p = jN w → Dr' p = nI h → Ru yX10_tells.cls cX10_tells 8 (some .boolean) yX10_tells.name 2 (post) 0 0 184 [some (.ref m), some (.long (jN w0)), none, some (.int (nI n0)), some (.int F), some (.int (nI p)), z6, z7] [] n kd (tDS I m Dr' Sh') (va_up J (m + 29) Am') P) → Ru yX10_tells.cls cX10_tells 8 (some .boolean) yX10_tells.name 2 (post) 0 0 50 [some (.ref m), some (.long (jN w0)), none, some (.int (nI n0)), some (.int F), some (.int (nI p)), z6, z7] [] n kd (tDS I m Dr Sh) (va_up J (m + 29) Am) P := by
  have hT0 := hT
  obtain ⟨hM, hI1, hI2, hPa, hH, hM20, hn0⟩ := hT0
  intro cnt
  induction cnt with
  | zero =>
    intro v Am Dr Sh z6 z7 hv hAm hDr hSh hS hD
    have ev : v = M := by omega
    subst ev
    refine r_aload_n dX10_tells_50 rfl ?_
    refine r_getR dX10_tells_51 fl_X10_115 rfl (kM_0 hM) (pM_63 hM) ?_
    refine r_iload dX10_tells_54 rfl ?_
    refine r_dup2 dX10_tells_56 rfl rfl ?_
    refine r_iald dX10_tells_57 (aM_63 hM) (nI_in8 9 (by omega) (by decide)) (nI_clamp (by omega)) ?_
    rw [tDS_31, hSh]
    refine r_iconst (v := nI 1) dX10_tells_58 (by decide) ?_
    refine r_iadd dX10_tells_59 ?_
    rw [nI_add]
    refine r_iast dX10_tells_60 (aM_63 hM) (nI_in8 9 (by omega) (by decide)) (nI_clamp (by omega)) ?_
    rw [tDS_31, tDS_p31]
    refine r_aload_n dX10_tells_61 rfl ?_
    refine r_getR dX10_tells_62 fl_X10_115 rfl (kM_0 hM) (pM_63 hM) ?_
    refine r_iload dX10_tells_65 rfl ?_
    refine r_iald dX10_tells_67 (aM_63 hM) (nI_in8 9 (by omega) (by decide)) (nI_clamp (by omega)) ?_
    rw [tDS_31, am_up_s]
    refine r_aload_n dX10_tells_68 rfl ?_
    refine r_getI dX10_tells_69 fl_X10_7 rfl (kM_0 hM) ?_
    rw [tDS_m, hI2]
    refine r_icmp_le (tgt := 88) dX10_tells_72 (by decide) (fun hz => absurd hz (show ¬ _ from (by rw [nI_leI (by omega) (by omega)]; omega))) (fun _ => ?_)
    exact hS rfl _ _ _ _ _ (fun j hj => ⟨rfl, rfl, by rw [am_up_n _ _ (by omega)]⟩)
  | succ cnt ih =>
    intro v Am Dr Sh z6 z7 hv hAm hDr hSh hS hD
    rw [List.range'_succ, List.all_cons] at hS hD
    have hs40 : (w &&& pa h (v + 1)) < 2 ^ 40 := and_40 hw
    by_cases ho : one (w &&& pa h (v + 1)) = true
    · have hok : okf pa H M r w h v = true := by unfold okf; rw [ho]; rfl
      rw [hok, Bool.true_and] at hS hD
      refine r_aload_n dX10_tells_50 rfl ?_
      refine r_getR dX10_tells_51 fl_X10_115 rfl (kM_0 hM) (pM_63 hM) ?_
      refine r_iload dX10_tells_54 rfl ?_
      refine r_dup2 dX10_tells_56 rfl rfl ?_
      refine r_iald dX10_tells_57 (aM_63 hM) (nI_in8 9 (by omega) (by decide)) (nI_clamp (by omega)) ?_
      rw [tDS_31, hSh]
      refine r_iconst (v := nI 1) dX10_tells_58 (by decide) ?_
      refine r_iadd dX10_tells_59 ?_
      rw [nI_add]
      refine r_iast dX10_tells_60 (aM_63 hM) (nI_in8 9 (by omega) (by decide)) (nI_clamp (by omega)) ?_
      rw [tDS_31, tDS_p31]
      refine r_aload_n dX10_tells_61 rfl ?_
      refine r_getR dX10_tells_62 fl_X10_115 rfl (kM_0 hM) (pM_63 hM) ?_
      refine r_iload dX10_tells_65 rfl ?_
      refine r_iald dX10_tells_67 (aM_63 hM) (nI_in8 9 (by omega) (by decide)) (nI_clamp (by omega)) ?_
      rw [tDS_31, am_up_s]
      refine r_aload_n dX10_tells_68 rfl ?_
      refine r_getI dX10_tells_69 fl_X10_7 rfl (kM_0 hM) ?_
      rw [tDS_m, hI2]
      refine r_icmp_le (tgt := 88) dX10_tells_72 (by decide) (fun _ => ?_) (fun hz => absurd (show _ from (by rw [nI_leI (by omega) (by omega)]; omega)) hz)
      refine r_aload_n dX10_tells_88 rfl ?_
      refine r_getR dX10_tells_89 fl_X10_109 rfl (kM_0 hM) (pM_61 hM) ?_
      refine r_iload dX10_tells_92 rfl ?_
      refine r_lald dX10_tells_94 (aM_61 hM) (nI_in8 9 (by omega) (by decide)) (nI_clamp (by omega)) ?_
      rw [am_up_s, hAm]
      refine r_aload_n dX10_tells_95 rfl ?_
      refine r_getR dX10_tells_96 fl_X10_105 rfl (kM_0 hM) (pM_60 hM) ?_
      refine r_bipush (v := nI 21) dX10_tells_99 (by decide) ?_
      refine r_aload_n dX10_tells_101 rfl ?_
      refine r_getR dX10_tells_102 fl_X10_112 rfl (kM_0 hM) (pM_62 hM) ?_
      refine r_iload dX10_tells_105 rfl ?_
      refine r_iald dX10_tells_107 (aM_62 hM) (nI_in8 9 (by omega) (by decide)) (nI_clamp (by omega)) ?_
      rw [tDS_30, hDr]
      refine r_imul dX10_tells_108 ?_
      rw [pk_mul]
      refine r_aload_n dX10_tells_109 rfl ?_
      refine r_getR dX10_tells_110 fl_X10_115 rfl (kM_0 hM) (pM_63 hM) ?_
      refine r_iload dX10_tells_113 rfl ?_
      refine r_iald dX10_tells_115 (aM_63 hM) (nI_in8 9 (by omega) (by decide)) (nI_clamp (by omega)) ?_
      rw [tDS_31, am_up_s]
      refine r_iadd dX10_tells_116 ?_
      rw [nI_add]
      refine r_lald dX10_tells_117 (aM_60 hM) (nI_in8 168 (by omega) (by decide)) (nI_clamp (by omega)) ?_
      rw [am_up_n _ _ (by omega), hPa h (v + 1) hh (by omega) (by omega)]
      refine r_land dX10_tells_118 ?_
      rw [jN_and]
      refine r_lstore dX10_tells_119 (by decide) ?_
      refine r_lload dX10_tells_121 rfl ?_
      refine r_statE (c_X10_isOne (w &&& pa h (v + 1)) hs40) lk_X10_451 mc_X10_isOne dX10_tells_123 (by decide) rfl rfl (Nat.le_of_ble_eq_true rfl) ?_
      refine r_if_eq (tgt := 132) dX10_tells_126 (by decide) (fun hz => absurd hz (show ¬ _ from (by rw [ho]; decide))) (fun _ => ?_)
      refine r_goto (tgt := 50) dX10_tells_129 (by decide) ?_
      refine ih (v + 1) Am Dr _ _ _ (by omega) hAm hDr (by rw [am_up_s]) (fun q Am' Dr' Sh' z6 z7 hs => hS q Am' Dr' Sh' z6 z7 (fun j hj => ?_)) (fun q Am' Dr' Sh' z6 z7 hs => hD q Am' Dr' Sh' z6 z7 (fun j hj => ?_))
      · have := hs j hj; rw [am_up_n _ _ (by omega)] at this; exact this
      · have := hs j hj; rw [am_up_n _ _ (by omega)] at this; exact this
    · have ho' : one (w &&& pa h (v + 1)) = false := by simpa using ho
      by_cases hr : r = 0
      · subst hr
        have hok : okf pa H M 0 w h v = false := by unfold okf tl; rw [ho']; simp
        rw [hok, Bool.false_and] at hS hD
        refine r_aload_n dX10_tells_50 rfl ?_
        refine r_getR dX10_tells_51 fl_X10_115 rfl (kM_0 hM) (pM_63 hM) ?_
        refine r_iload dX10_tells_54 rfl ?_
        refine r_dup2 dX10_tells_56 rfl rfl ?_
        refine r_iald dX10_tells_57 (aM_63 hM) (nI_in8 9 (by omega) (by decide)) (nI_clamp (by omega)) ?_
        rw [tDS_31, hSh]
        refine r_iconst (v := nI 1) dX10_tells_58 (by decide) ?_
        refine r_iadd dX10_tells_59 ?_
        rw [nI_add]
        refine r_iast dX10_tells_60 (aM_63 hM) (nI_in8 9 (by omega) (by decide)) (nI_clamp (by omega)) ?_
        rw [tDS_31, tDS_p31]
        refine r_aload_n dX10_tells_61 rfl ?_
        refine r_getR dX10_tells_62 fl_X10_115 rfl (kM_0 hM) (pM_63 hM) ?_
        refine r_iload dX10_tells_65 rfl ?_
        refine r_iald dX10_tells_67 (aM_63 hM) (nI_in8 9 (by omega) (by decide)) (nI_clamp (by omega)) ?_
        rw [tDS_31, am_up_s]
        refine r_aload_n dX10_tells_68 rfl ?_
        refine r_getI dX10_tells_69 fl_X10_7 rfl (kM_0 hM) ?_
        rw [tDS_m, hI2]
        refine r_icmp_le (tgt := 88) dX10_tells_72 (by decide) (fun _ => ?_) (fun hz => absurd (show _ from (by rw [nI_leI (by omega) (by omega)]; omega)) hz)
        refine r_aload_n dX10_tells_88 rfl ?_
        refine r_getR dX10_tells_89 fl_X10_109 rfl (kM_0 hM) (pM_61 hM) ?_
        refine r_iload dX10_tells_92 rfl ?_
        refine r_lald dX10_tells_94 (aM_61 hM) (nI_in8 9 (by omega) (by decide)) (nI_clamp (by omega)) ?_
        rw [am_up_s, hAm]
        refine r_aload_n dX10_tells_95 rfl ?_
        refine r_getR dX10_tells_96 fl_X10_105 rfl (kM_0 hM) (pM_60 hM) ?_
        refine r_bipush (v := nI 21) dX10_tells_99 (by decide) ?_
        refine r_aload_n dX10_tells_101 rfl ?_
        refine r_getR dX10_tells_102 fl_X10_112 rfl (kM_0 hM) (pM_62 hM) ?_
        refine r_iload dX10_tells_105 rfl ?_
        refine r_iald dX10_tells_107 (aM_62 hM) (nI_in8 9 (by omega) (by decide)) (nI_clamp (by omega)) ?_
        rw [tDS_30, hDr]
        refine r_imul dX10_tells_108 ?_
        rw [pk_mul]
        refine r_aload_n dX10_tells_109 rfl ?_
        refine r_getR dX10_tells_110 fl_X10_115 rfl (kM_0 hM) (pM_63 hM) ?_
        refine r_iload dX10_tells_113 rfl ?_
        refine r_iald dX10_tells_115 (aM_63 hM) (nI_in8 9 (by omega) (by decide)) (nI_clamp (by omega)) ?_
        rw [tDS_31, am_up_s]
        refine r_iadd dX10_tells_116 ?_
        rw [nI_add]
        refine r_lald dX10_tells_117 (aM_60 hM) (nI_in8 168 (by omega) (by decide)) (nI_clamp (by omega)) ?_
        rw [am_up_n _ _ (by omega), hPa h (v + 1) hh (by omega) (by omega)]
        refine r_land dX10_tells_118 ?_
        rw [jN_and]
        refine r_lstore dX10_tells_119 (by decide) ?_
        refine r_lload dX10_tells_121 rfl ?_
        refine r_statE (c_X10_isOne (w &&& pa h (v + 1)) hs40) lk_X10_451 mc_X10_isOne dX10_tells_123 (by decide) rfl rfl (Nat.le_of_ble_eq_true rfl) ?_
        refine r_if_eq (tgt := 132) dX10_tells_126 (by decide) (fun _ => ?_) (fun hz => absurd (show _ from (by rw [ho']; decide)) hz)
        refine r_iload dX10_tells_132 rfl ?_
        refine r_iconst (v := nI 1) dX10_tells_134 (by decide) ?_
        refine r_iadd dX10_tells_135 ?_
        rw [nI_add]
        refine r_iload_n dX10_tells_136 rfl ?_
        refine r_icmp_ge (tgt := 184) dX10_tells_137 (by decide) (fun _ => ?_) (fun hz => absurd (show _ from (by rw [nI_leI (by omega) (by omega)]; omega)) hz)
        exact hD rfl Am Dr _ _ _ (fun j hj => ⟨rfl, rfl, by rw [am_up_n _ _ (by omega)]⟩) hAm hDr
      · by_cases he : (w &&& pa h (v + 1)) = w
        · have hok : okf pa H M r w h v = false := by unfold okf; rw [ho', decide_eq_true he]; rfl
          rw [hok, Bool.false_and] at hS hD
          refine r_aload_n dX10_tells_50 rfl ?_
          refine r_getR dX10_tells_51 fl_X10_115 rfl (kM_0 hM) (pM_63 hM) ?_
          refine r_iload dX10_tells_54 rfl ?_
          refine r_dup2 dX10_tells_56 rfl rfl ?_
          refine r_iald dX10_tells_57 (aM_63 hM) (nI_in8 9 (by omega) (by decide)) (nI_clamp (by omega)) ?_
          rw [tDS_31, hSh]
          refine r_iconst (v := nI 1) dX10_tells_58 (by decide) ?_
          refine r_iadd dX10_tells_59 ?_
          rw [nI_add]
          refine r_iast dX10_tells_60 (aM_63 hM) (nI_in8 9 (by omega) (by decide)) (nI_clamp (by omega)) ?_
          rw [tDS_31, tDS_p31]
          refine r_aload_n dX10_tells_61 rfl ?_
          refine r_getR dX10_tells_62 fl_X10_115 rfl (kM_0 hM) (pM_63 hM) ?_
          refine r_iload dX10_tells_65 rfl ?_
          refine r_iald dX10_tells_67 (aM_63 hM) (nI_in8 9 (by omega) (by decide)) (nI_clamp (by omega)) ?_
          rw [tDS_31, am_up_s]
          refine r_aload_n dX10_tells_68 rfl ?_
          refine r_getI dX10_tells_69 fl_X10_7 rfl (kM_0 hM) ?_
          rw [tDS_m, hI2]
          refine r_icmp_le (tgt := 88) dX10_tells_72 (by decide) (fun _ => ?_) (fun hz => absurd (show _ from (by rw [nI_leI (by omega) (by omega)]; omega)) hz)
          refine r_aload_n dX10_tells_88 rfl ?_
          refine r_getR dX10_tells_89 fl_X10_109 rfl (kM_0 hM) (pM_61 hM) ?_
          refine r_iload dX10_tells_92 rfl ?_
          refine r_lald dX10_tells_94 (aM_61 hM) (nI_in8 9 (by omega) (by decide)) (nI_clamp (by omega)) ?_
          rw [am_up_s, hAm]
          refine r_aload_n dX10_tells_95 rfl ?_
          refine r_getR dX10_tells_96 fl_X10_105 rfl (kM_0 hM) (pM_60 hM) ?_
          refine r_bipush (v := nI 21) dX10_tells_99 (by decide) ?_
          refine r_aload_n dX10_tells_101 rfl ?_
          refine r_getR dX10_tells_102 fl_X10_112 rfl (kM_0 hM) (pM_62 hM) ?_
          refine r_iload dX10_tells_105 rfl ?_
          refine r_iald dX10_tells_107 (aM_62 hM) (nI_in8 9 (by omega) (by decide)) (nI_clamp (by omega)) ?_
          rw [tDS_30, hDr]
          refine r_imul dX10_tells_108 ?_
          rw [pk_mul]
          refine r_aload_n dX10_tells_109 rfl ?_
          refine r_getR dX10_tells_110 fl_X10_115 rfl (kM_0 hM) (pM_63 hM) ?_
          refine r_iload dX10_tells_113 rfl ?_
          refine r_iald dX10_tells_115 (aM_63 hM) (nI_in8 9 (by omega) (by decide)) (nI_clamp (by omega)) ?_
          rw [tDS_31, am_up_s]
          refine r_iadd dX10_tells_116 ?_
          rw [nI_add]
          refine r_lald dX10_tells_117 (aM_60 hM) (nI_in8 168 (by omega) (by decide)) (nI_clamp (by omega)) ?_
          rw [am_up_n _ _ (by omega), hPa h (v + 1) hh (by omega) (by omega)]
          refine r_land dX10_tells_118 ?_
          rw [jN_and]
          refine r_lstore dX10_tells_119 (by decide) ?_
          refine r_lload dX10_tells_121 rfl ?_
          refine r_statE (c_X10_isOne (w &&& pa h (v + 1)) hs40) lk_X10_451 mc_X10_isOne dX10_tells_123 (by decide) rfl rfl (Nat.le_of_ble_eq_true rfl) ?_
          refine r_if_eq (tgt := 132) dX10_tells_126 (by decide) (fun _ => ?_) (fun hz => absurd (show _ from (by rw [ho']; decide)) hz)
          refine r_iload dX10_tells_132 rfl ?_
          refine r_iconst (v := nI 1) dX10_tells_134 (by decide) ?_
          refine r_iadd dX10_tells_135 ?_
          rw [nI_add]
          refine r_iload_n dX10_tells_136 rfl ?_
          refine r_icmp_ge (tgt := 184) dX10_tells_137 (by decide) (fun hz => absurd hz (show ¬ _ from (by rw [nI_leI (by omega) (by omega)]; omega))) (fun _ => ?_)
          refine r_lload dX10_tells_140 rfl ?_
          refine r_aload_n dX10_tells_142 rfl ?_
          refine r_getR dX10_tells_143 fl_X10_109 rfl (kM_0 hM) (pM_61 hM) ?_
          refine r_iload dX10_tells_146 rfl ?_
          refine r_lald dX10_tells_148 (aM_61 hM) (nI_in8 9 (by omega) (by decide)) (nI_clamp (by omega)) ?_
          rw [am_up_s, hAm]
          refine r_lcmp dX10_tells_149 ?_
          refine r_if_eq (tgt := 184) dX10_tells_150 (by decide) (fun _ => ?_) (fun hz => absurd (show _ from ((lg_cmp_eq _ _).mpr (by rw [he]))) hz)
          exact hD rfl Am Dr _ _ _ (fun j hj => ⟨rfl, rfl, by rw [am_up_n _ _ (by omega)]⟩) hAm hDr
        · obtain ⟨r2, hr2⟩ : ∃ r2, r2 + 1 = r := ⟨r - 1, by omega⟩
          have hB := hN r2 hr2
          have hok : okf pa H M r w h v = (List.range' 0 H).any fun h2 => (List.range' 0 M).all (okf pa H M r2 (w &&& pa h (v + 1)) h2) := by
            unfold okf
            rw [ho', decide_eq_false he, ← hr2, tl_s pa H M r2 _ ho]
            rfl
          rw [hok] at hS hD
          refine r_aload_n dX10_tells_50 rfl ?_
          refine r_getR dX10_tells_51 fl_X10_115 rfl (kM_0 hM) (pM_63 hM) ?_
          refine r_iload dX10_tells_54 rfl ?_
          refine r_dup2 dX10_tells_56 rfl rfl ?_
          refine r_iald dX10_tells_57 (aM_63 hM) (nI_in8 9 (by omega) (by decide)) (nI_clamp (by omega)) ?_
          rw [tDS_31, hSh]
          refine r_iconst (v := nI 1) dX10_tells_58 (by decide) ?_
          refine r_iadd dX10_tells_59 ?_
          rw [nI_add]
          refine r_iast dX10_tells_60 (aM_63 hM) (nI_in8 9 (by omega) (by decide)) (nI_clamp (by omega)) ?_
          rw [tDS_31, tDS_p31]
          refine r_aload_n dX10_tells_61 rfl ?_
          refine r_getR dX10_tells_62 fl_X10_115 rfl (kM_0 hM) (pM_63 hM) ?_
          refine r_iload dX10_tells_65 rfl ?_
          refine r_iald dX10_tells_67 (aM_63 hM) (nI_in8 9 (by omega) (by decide)) (nI_clamp (by omega)) ?_
          rw [tDS_31, am_up_s]
          refine r_aload_n dX10_tells_68 rfl ?_
          refine r_getI dX10_tells_69 fl_X10_7 rfl (kM_0 hM) ?_
          rw [tDS_m, hI2]
          refine r_icmp_le (tgt := 88) dX10_tells_72 (by decide) (fun _ => ?_) (fun hz => absurd (show _ from (by rw [nI_leI (by omega) (by omega)]; omega)) hz)
          refine r_aload_n dX10_tells_88 rfl ?_
          refine r_getR dX10_tells_89 fl_X10_109 rfl (kM_0 hM) (pM_61 hM) ?_
          refine r_iload dX10_tells_92 rfl ?_
          refine r_lald dX10_tells_94 (aM_61 hM) (nI_in8 9 (by omega) (by decide)) (nI_clamp (by omega)) ?_
          rw [am_up_s, hAm]
          refine r_aload_n dX10_tells_95 rfl ?_
          refine r_getR dX10_tells_96 fl_X10_105 rfl (kM_0 hM) (pM_60 hM) ?_
          refine r_bipush (v := nI 21) dX10_tells_99 (by decide) ?_
          refine r_aload_n dX10_tells_101 rfl ?_
          refine r_getR dX10_tells_102 fl_X10_112 rfl (kM_0 hM) (pM_62 hM) ?_
          refine r_iload dX10_tells_105 rfl ?_
          refine r_iald dX10_tells_107 (aM_62 hM) (nI_in8 9 (by omega) (by decide)) (nI_clamp (by omega)) ?_
          rw [tDS_30, hDr]
          refine r_imul dX10_tells_108 ?_
          rw [pk_mul]
          refine r_aload_n dX10_tells_109 rfl ?_
          refine r_getR dX10_tells_110 fl_X10_115 rfl (kM_0 hM) (pM_63 hM) ?_
          refine r_iload dX10_tells_113 rfl ?_
          refine r_iald dX10_tells_115 (aM_63 hM) (nI_in8 9 (by omega) (by decide)) (nI_clamp (by omega)) ?_
          rw [tDS_31, am_up_s]
          refine r_iadd dX10_tells_116 ?_
          rw [nI_add]
          refine r_lald dX10_tells_117 (aM_60 hM) (nI_in8 168 (by omega) (by decide)) (nI_clamp (by omega)) ?_
          rw [am_up_n _ _ (by omega), hPa h (v + 1) hh (by omega) (by omega)]
          refine r_land dX10_tells_118 ?_
          rw [jN_and]
          refine r_lstore dX10_tells_119 (by decide) ?_
          refine r_lload dX10_tells_121 rfl ?_
          refine r_statE (c_X10_isOne (w &&& pa h (v + 1)) hs40) lk_X10_451 mc_X10_isOne dX10_tells_123 (by decide) rfl rfl (Nat.le_of_ble_eq_true rfl) ?_
          refine r_if_eq (tgt := 132) dX10_tells_126 (by decide) (fun _ => ?_) (fun hz => absurd (show _ from (by rw [ho']; decide)) hz)
          refine r_iload dX10_tells_132 rfl ?_
          refine r_iconst (v := nI 1) dX10_tells_134 (by decide) ?_
          refine r_iadd dX10_tells_135 ?_
          rw [nI_add]
          refine r_iload_n dX10_tells_136 rfl ?_
          refine r_icmp_ge (tgt := 184) dX10_tells_137 (by decide) (fun hz => absurd hz (show ¬ _ from (by rw [nI_leI (by omega) (by omega)]; omega))) (fun _ => ?_)
          refine r_lload dX10_tells_140 rfl ?_
          refine r_aload_n dX10_tells_142 rfl ?_
          refine r_getR dX10_tells_143 fl_X10_109 rfl (kM_0 hM) (pM_61 hM) ?_
          refine r_iload dX10_tells_146 rfl ?_
          refine r_lald dX10_tells_148 (aM_61 hM) (nI_in8 9 (by omega) (by decide)) (nI_clamp (by omega)) ?_
          rw [am_up_s, hAm]
          refine r_lcmp dX10_tells_149 ?_
          refine r_if_eq (tgt := 184) dX10_tells_150 (by decide) (fun hz => absurd hz (show ¬ _ from (fun q => he (jN_inj (by omega) (by omega) ((lg_cmp_eq _ _).mp q))))) (fun _ => ?_)
          refine r_iinc (v := nI (p + 1)) dX10_tells_153 rfl (nI_inc p) ?_
          refine r_aload_n dX10_tells_156 rfl ?_
          refine r_getR dX10_tells_157 fl_X10_109 rfl (kM_0 hM) (pM_61 hM) ?_
          refine r_iload dX10_tells_160 rfl ?_
          refine r_lload dX10_tells_162 rfl ?_
          refine r_last dX10_tells_164 (aM_61 hM) (nI_in8 9 (by omega) (by decide)) (nI_clamp (by omega)) ?_
          rw [am_up_s, am_up_up]
          refine r_aload_n dX10_tells_165 rfl ?_
          refine r_getR dX10_tells_166 fl_X10_112 rfl (kM_0 hM) (pM_62 hM) ?_
          refine r_iload dX10_tells_169 rfl ?_
          refine r_iconst (v := nI 0) dX10_tells_171 (by decide) ?_
          refine r_iast dX10_tells_172 (aM_62 hM) (nI_in8 9 (by omega) (by decide)) (nI_clamp (by omega)) ?_
          rw [tDS_30, tDS_p30]
          refine r_aload_n dX10_tells_173 rfl ?_
          refine r_getR dX10_tells_174 fl_X10_115 rfl (kM_0 hM) (pM_63 hM) ?_
          refine r_iload dX10_tells_177 rfl ?_
          refine r_iconst (v := nI 0) dX10_tells_179 (by decide) ?_
          refine r_iast dX10_tells_180 (aM_63 hM) (nI_in8 9 (by omega) (by decide)) (nI_clamp (by omega)) ?_
          rw [tDS_31, tDS_p31]
          refine r_goto (tgt := 50) dX10_tells_181 (by decide) ?_
          have hsm : ∀ (Am' : Nat → Int64) (Dr' Sh' : Nat → Int32), (∀ j, j < p + 1 → Am' j = va_up Am (p + 1) (jN (w &&& pa h (v + 1))) j ∧ Dr' j = va_up Dr (p + 1) (nI 0) j ∧ Sh' j = va_up (va_up Sh p (nI (v + 1))) (p + 1) (nI 0) j) → (∀ j, j < p → Am' j = Am j ∧ Dr' j = Dr j ∧ Sh' j = Sh j) ∧ Am' p = jN w ∧ Dr' p = nI h ∧ Sh' p = nI (v + 1) := fun Am' Dr' Sh' hs => by
            have h0 := hs p (by omega)
            rw [am_up_n _ _ (by omega), am_up_n _ _ (by omega), am_up_n _ _ (by omega), am_up_s] at h0
            refine ⟨fun j hj => ?_, h0.1.trans hAm, h0.2.1.trans hDr, h0.2.2⟩
            have h1 := hs j (by omega)
            rw [am_up_n _ _ (by omega), am_up_n _ _ (by omega), am_up_n _ _ (by omega), am_up_n _ _ (by omega)] at h1
            exact h1
          refine hB (w &&& pa h (v + 1)) _ _ _ _ _ hs40 (by rw [am_up_s]) (by rw [am_up_s]) (by rw [am_up_s]) (fun q Am' Dr' Sh' z6 z7 hs => ?_) (fun q Am' Dr' Sh' z6 z7 hs => ?_)
          · rw [q, Bool.true_and] at hS hD
            obtain ⟨g1, g2, g3, g4⟩ := hsm _ _ _ hs
            refine r_iload dX10_tells_75 rfl ?_
            refine r_if_ne (tgt := 82) dX10_tells_77 (by decide) (fun _ => ?_) (fun hz => absurd hz (show ¬ _ from (by rw [z_eq (by omega)]; omega)))
            refine r_iinc (v := nI p) dX10_tells_82 rfl (nI_dec p) ?_
            refine r_goto (tgt := 50) dX10_tells_85 (by decide) ?_
            refine ih (v + 1) Am' Dr' Sh' _ _ (by omega) g2 g3 g4 (fun q A2 D2 S2 z6 z7 hs => hS q A2 D2 S2 z6 z7 (fun j hj => ?_)) (fun q A2 D2 S2 z6 z7 hs => hD q A2 D2 S2 z6 z7 (fun j hj => ?_))
            · have x := hs j hj; have y := g1 j hj; exact ⟨x.1.trans y.1, x.2.1.trans y.2.1, x.2.2.trans y.2.2⟩
            · have x := hs j hj; have y := g1 j hj; exact ⟨x.1.trans y.1, x.2.1.trans y.2.1, x.2.2.trans y.2.2⟩
          · rw [q, Bool.false_and] at hS hD
            obtain ⟨g1, g2, g3, g4⟩ := hsm _ _ _ hs
            refine r_iinc (v := nI p) dX10_tells_236 rfl (nI_dec p) ?_
            refine r_goto (tgt := 184) dX10_tells_239 (by decide) ?_
            exact hD rfl _ _ _ _ _ g1 g2 g3

set_option maxHeartbeats 4000000 in
set_option maxRecDepth 100000 in
theorem tf_doors (m H M n0 w0 : Nat) (pa : Nat → Nat → Nat) (n : Nat) (kd : mK) (I : mI) (J : mJ) (P : mP) (post : am_Post) (F : Int32) (hT : tsS m H M n0 w0 pa n kd I J P post) (r p w : Nat) (hp1 : 1 ≤ p) (hp : p + r + 1 = n0) (hw : w < 2 ^ 40) (hN : ∀ r2, r2 + 1 = r → LBq m H M n0 w0 pa n kd I J P post F r2 (p + 1)) : ∀ (cnt h : Nat) (Am : Nat → Int64) (Dr Sh : Nat → Int32) (z6 z7 : Option Value), h + cnt + 1 = H → Am p = jN w → Dr p = nI h → Sh p = nI 0 → (((List.range' h (cnt + 1)).any fun h => (List.range' 0 M).all (okf pa H M r w h)) = true → ∀ (Am' : Nat → Int64) (Dr' Sh' : Nat → Int32) (z6 z7 : Option Value), (∀ j, j < p → Am' j = Am j ∧ Dr' j = Dr j ∧ Sh' j = Sh j) → Ru yX10_tells.cls cX10_tells 8 (some .boolean) yX10_tells.name 2 (post) 0 0 75 [some (.ref m), some (.long (jN w0)), none, some (.int (nI n0)), some (.int F), some (.int (nI p)), z6, z7] [] n kd (tDS I m Dr' Sh') (va_up J (m + 29) Am') P) → (((List.range' h (cnt + 1)).any fun h => (List.range' 0 M).all (okf pa H M r w h)) = false → ∀ (Am' : Nat → Int64) (Dr' Sh' : Nat → Int32) (z6 z7 : Option Value), (∀ j, j < p → Am' j = Am j ∧ Dr' j = Dr j ∧ Sh' j = Sh j) → Ru yX10_tells.cls cX10_tells 8 (some .boolean) yX10_tells.name 2 (post) 0 0 236 [some (.ref m), some (.long (jN w0)), none, some (.int (nI n0)), some (.int F), some (.int (nI p)), z6, z7] [] n kd (tDS I m Dr' Sh') (va_up J (m + 29) Am') P) → Ru yX10_tells.cls cX10_tells 8 (some .boolean) yX10_tells.name 2 (post) 0 0 50 [some (.ref m), some (.long (jN w0)), none, some (.int (nI n0)), some (.int F), some (.int (nI p)), z6, z7] [] n kd (tDS I m Dr Sh) (va_up J (m + 29) Am) P := by
  have hT0 := hT
  obtain ⟨hM, hI1, hI2, hPa, hH, hM20, hn0⟩ := hT0
  intro cnt
  induction cnt with
  | zero =>
    intro h Am Dr Sh z6 z7 hv hAm hDr hSh hS hF
    rw [List.range'_succ, List.any_cons, List.range'_zero, List.any_nil, Bool.or_false] at hS hF
    refine tf_shows m H M n0 w0 pa n kd I J P post F hT r p w h hp hw (by omega) hN M 0 Am Dr Sh z6 z7 (by omega) hAm hDr hSh hS (fun q Am' Dr' Sh' z6 z7 hs g2 g3 => ?_)
    refine r_iload dX10_tells_184 rfl ?_
    refine r_if_lt (tgt := 242) dX10_tells_186 (by decide) (fun hz => absurd hz (show ¬ _ from (z_nlt (by omega)))) (fun _ => ?_)
    refine r_aload_n dX10_tells_189 rfl ?_
    refine r_getR dX10_tells_190 fl_X10_112 rfl (kM_0 hM) (pM_62 hM) ?_
    refine r_iload dX10_tells_193 rfl ?_
    refine r_dup2 dX10_tells_195 rfl rfl ?_
    refine r_iald dX10_tells_196 (aM_62 hM) (nI_in8 9 (by omega) (by decide)) (nI_clamp (by omega)) ?_
    rw [tDS_30, g3]
    refine r_iconst (v := nI 1) dX10_tells_197 (by decide) ?_
    refine r_iadd dX10_tells_198 ?_
    rw [nI_add]
    refine r_iast dX10_tells_199 (aM_62 hM) (nI_in8 9 (by omega) (by decide)) (nI_clamp (by omega)) ?_
    rw [tDS_30, tDS_p30]
    refine r_aload_n dX10_tells_200 rfl ?_
    refine r_getR dX10_tells_201 fl_X10_115 rfl (kM_0 hM) (pM_63 hM) ?_
    refine r_iload dX10_tells_204 rfl ?_
    refine r_iconst (v := nI 0) dX10_tells_206 (by decide) ?_
    refine r_iast dX10_tells_207 (aM_63 hM) (nI_in8 9 (by omega) (by decide)) (nI_clamp (by omega)) ?_
    rw [tDS_31, tDS_p31]
    refine r_aload_n dX10_tells_208 rfl ?_
    refine r_getR dX10_tells_209 fl_X10_112 rfl (kM_0 hM) (pM_62 hM) ?_
    refine r_iload dX10_tells_212 rfl ?_
    refine r_iald dX10_tells_214 (aM_62 hM) (nI_in8 9 (by omega) (by decide)) (nI_clamp (by omega)) ?_
    rw [tDS_30, am_up_s]
    refine r_aload_n dX10_tells_215 rfl ?_
    refine r_getI dX10_tells_216 fl_X10_350 rfl (kM_0 hM) ?_
    rw [tDS_m, hI1]
    refine r_icmp_ge (tgt := 236) dX10_tells_219 (by decide) (fun _ => ?_) (fun hz => absurd (show _ from (by rw [nI_leI (by omega) (by omega)]; omega)) hz)
    exact hF q _ _ _ _ _ (fun j hj => by rw [am_up_n _ _ (by omega), am_up_n _ _ (by omega)]; exact hs j hj)
  | succ cnt ih =>
    intro h Am Dr Sh z6 z7 hv hAm hDr hSh hS hF
    rw [List.range'_succ, List.any_cons] at hS hF
    refine tf_shows m H M n0 w0 pa n kd I J P post F hT r p w h hp hw (by omega) hN M 0 Am Dr Sh z6 z7 (by omega) hAm hDr hSh (fun q => hS (by rw [q]; rfl)) (fun q Am' Dr' Sh' z6 z7 hs g2 g3 => ?_)
    rw [q, Bool.false_or] at hS hF
    refine r_iload dX10_tells_184 rfl ?_
    refine r_if_lt (tgt := 242) dX10_tells_186 (by decide) (fun hz => absurd hz (show ¬ _ from (z_nlt (by omega)))) (fun _ => ?_)
    refine r_aload_n dX10_tells_189 rfl ?_
    refine r_getR dX10_tells_190 fl_X10_112 rfl (kM_0 hM) (pM_62 hM) ?_
    refine r_iload dX10_tells_193 rfl ?_
    refine r_dup2 dX10_tells_195 rfl rfl ?_
    refine r_iald dX10_tells_196 (aM_62 hM) (nI_in8 9 (by omega) (by decide)) (nI_clamp (by omega)) ?_
    rw [tDS_30, g3]
    refine r_iconst (v := nI 1) dX10_tells_197 (by decide) ?_
    refine r_iadd dX10_tells_198 ?_
    rw [nI_add]
    refine r_iast dX10_tells_199 (aM_62 hM) (nI_in8 9 (by omega) (by decide)) (nI_clamp (by omega)) ?_
    rw [tDS_30, tDS_p30]
    refine r_aload_n dX10_tells_200 rfl ?_
    refine r_getR dX10_tells_201 fl_X10_115 rfl (kM_0 hM) (pM_63 hM) ?_
    refine r_iload dX10_tells_204 rfl ?_
    refine r_iconst (v := nI 0) dX10_tells_206 (by decide) ?_
    refine r_iast dX10_tells_207 (aM_63 hM) (nI_in8 9 (by omega) (by decide)) (nI_clamp (by omega)) ?_
    rw [tDS_31, tDS_p31]
    refine r_aload_n dX10_tells_208 rfl ?_
    refine r_getR dX10_tells_209 fl_X10_112 rfl (kM_0 hM) (pM_62 hM) ?_
    refine r_iload dX10_tells_212 rfl ?_
    refine r_iald dX10_tells_214 (aM_62 hM) (nI_in8 9 (by omega) (by decide)) (nI_clamp (by omega)) ?_
    rw [tDS_30, am_up_s]
    refine r_aload_n dX10_tells_215 rfl ?_
    refine r_getI dX10_tells_216 fl_X10_350 rfl (kM_0 hM) ?_
    rw [tDS_m, hI1]
    refine r_icmp_ge (tgt := 236) dX10_tells_219 (by decide) (fun hz => absurd hz (show ¬ _ from (by rw [nI_leI (by omega) (by omega)]; omega))) (fun _ => ?_)
    refine r_iload dX10_tells_222 rfl ?_
    refine r_if_gt (tgt := 242) dX10_tells_224 (by decide) (fun _ => ?_) (fun hz => absurd (show _ from (by rw [z_gt (by omega)]; omega)) hz)
    refine r_iload dX10_tells_242 rfl ?_
    refine r_if_ge (tgt := 249) dX10_tells_244 (by decide) (fun _ => ?_) (fun hz => absurd (show _ from (z_ge (by omega))) hz)
    refine r_goto (tgt := 50) dX10_tells_249 (by decide) ?_
    refine ih (h + 1) _ _ _ _ _ (by omega) g2 (by rw [am_up_s]) (by rw [am_up_s]) (fun q A2 D2 S2 z6 z7 hs2 => hS q A2 D2 S2 z6 z7 (fun j hj => ?_)) (fun q A2 D2 S2 z6 z7 hs2 => hF q A2 D2 S2 z6 z7 (fun j hj => ?_))
    · have x := hs2 j hj; have y := hs j hj; rw [am_up_n _ _ (by omega), am_up_n _ _ (by omega)] at x; exact ⟨x.1.trans y.1, x.2.1.trans y.2.1, x.2.2.trans y.2.2⟩
    · have x := hs2 j hj; have y := hs j hj; rw [am_up_n _ _ (by omega), am_up_n _ _ (by omega)] at x; exact ⟨x.1.trans y.1, x.2.1.trans y.2.1, x.2.2.trans y.2.2⟩

theorem tf_all (m H M n0 w0 : Nat) (pa : Nat → Nat → Nat) (n : Nat) (kd : mK) (I : mI) (J : mJ) (P : mP) (post : am_Post) (F : Int32) (hT : tsS m H M n0 w0 pa n kd I J P post) (hH1 : 1 ≤ H) : ∀ (r p : Nat), 1 ≤ p → p + r + 1 = n0 → LBq m H M n0 w0 pa n kd I J P post F r p
  | 0, p, hp1, hp => fun w Am Dr Sh z6 z7 hw hA hD hS h1 h2 => tf_doors m H M n0 w0 pa n kd I J P post F hT 0 p w hp1 hp hw (fun _ h => nomatch h) (H - 1) 0 Am Dr Sh z6 z7 (by omega) hA hD hS (by rw [show H - 1 + 1 = H by omega]; exact h1) (by rw [show H - 1 + 1 = H by omega]; exact h2)
  | r + 1, p, hp1, hp => fun w Am Dr Sh z6 z7 hw hA hD hS h1 h2 => tf_doors m H M n0 w0 pa n kd I J P post F hT (r + 1) p w hp1 hp hw (fun r2 h => by rw [show r2 = r by omega]; exact tf_all m H M n0 w0 pa n kd I J P post F hT hH1 r (p + 1) (by omega) (by omega)) (H - 1) 0 Am Dr Sh z6 z7 (by omega) hA hD hS (by rw [show H - 1 + 1 = H by omega]; exact h1) (by rw [show H - 1 + 1 = H by omega]; exact h2)
set_option maxHeartbeats 4000000 in
set_option maxRecDepth 100000 in
theorem c_X10_tellsH (m H M r w0 x : Nat) (pa : Nat → Nat → Nat) {n : Nat} {kd : mK} {I : mI} {J : mJ} {P : mP} (hM : kM kd P m) (hI1 : I m 1 = nI H) (hI2 : I m 2 = nI M) (hPa : ∀ h v, h < H → 1 ≤ v → v ≤ M → J (m + 28) (21 * h + v) = jN (pa h v)) (hH : H ≤ 8) (hM20 : M ≤ 20) (hn0 : r + 1 ≤ 8) (hw : w0 < 2 ^ 40) (ho : ¬ one w0 = true) (hx : x < H) : Ct yX10_tells cX10_tells 8 (some .boolean) 2 0 0 [.ref m, .long (jN w0), .int (nI (r + 1)), .int (nI x)] n kd I J P (fun y n' kd' I' J' P' => ∃ (Am : Nat → Int64) (Dr Sh : Nat → Int32), am_is (some (.int (bz ((List.range' 0 M).all (okf pa H M r w0 x))))) n kd (tDS I m Dr Sh) (va_up J (m + 29) Am) P y n' kd' I' J' P') := by
  refine ct_of 3 (by decide +kernel) (Nat.le_of_ble_eq_true rfl) rfl ?_
  have ho2 : one w0 = false := by simpa using ho
  have hT : tsS m H M (r + 1) w0 pa n kd I J P (fun y n' kd' I' J' P' => ∃ (Am : Nat → Int64) (Dr Sh : Nat → Int32), am_is (some (.int (bz ((List.range' 0 M).all (okf pa H M r w0 x))))) n kd (tDS I m Dr Sh) (va_up J (m + 29) Am) P y n' kd' I' J' P') := ⟨hM, hI1, hI2, hPa, hH, hM20, hn0⟩
  have hA := tf_shows _ _ _ _ _ _ _ _ _ _ _ _ (nI x) hT r 0 w0 x (by omega) hw hx (fun r2 h => tf_all _ _ _ _ _ _ _ _ _ _ _ _ (nI x) hT (by omega) r2 1 (by omega) (by omega)) M 0 (va_up (J (m + 29)) 0 (jN w0)) (va_up (I (m + 30)) 0 (nI x)) (va_up (I (m + 31)) 0 (nI 0)) none none (by omega) (by rw [am_up_s]) (by rw [am_up_s]) (by rw [am_up_s]) (fun q Am Dr Sh z6 z7 _ => by
    rw [q]
    refine r_iload dX10_tells_75 rfl ?_
    refine r_if_ne (tgt := 82) dX10_tells_77 (by decide) (fun hz => absurd (show _ from rfl) hz) (fun _ => ?_)
    refine r_iconst (v := nI 1) dX10_tells_80 (by decide) ?_
    refine r_zret rfl dX10_tells_81 (by first | exact Or.inl rfl | exact Or.inr rfl | assumption) ?_
    exact ⟨Am, Dr, Sh, am_is.mk⟩) (fun q Am Dr Sh z6 z7 _ _ g3 => by
    rw [q]
    by_cases hl : x + 1 < H
    · skip
      refine r_iload dX10_tells_184 rfl ?_
      refine r_if_lt (tgt := 242) dX10_tells_186 (by decide) (fun hz => absurd hz (show ¬ _ from (z_nlt (by omega)))) (fun _ => ?_)
      refine r_aload_n dX10_tells_189 rfl ?_
      refine r_getR dX10_tells_190 fl_X10_112 rfl (kM_0 hM) (pM_62 hM) ?_
      refine r_iload dX10_tells_193 rfl ?_
      refine r_dup2 dX10_tells_195 rfl rfl ?_
      refine r_iald dX10_tells_196 (aM_62 hM) (nI_in8 9 (by omega) (by decide)) (nI_clamp (by omega)) ?_
      rw [tDS_30, g3]
      refine r_iconst (v := nI 1) dX10_tells_197 (by decide) ?_
      refine r_iadd dX10_tells_198 ?_
      rw [nI_add]
      refine r_iast dX10_tells_199 (aM_62 hM) (nI_in8 9 (by omega) (by decide)) (nI_clamp (by omega)) ?_
      rw [tDS_30, tDS_p30]
      refine r_aload_n dX10_tells_200 rfl ?_
      refine r_getR dX10_tells_201 fl_X10_115 rfl (kM_0 hM) (pM_63 hM) ?_
      refine r_iload dX10_tells_204 rfl ?_
      refine r_iconst (v := nI 0) dX10_tells_206 (by decide) ?_
      refine r_iast dX10_tells_207 (aM_63 hM) (nI_in8 9 (by omega) (by decide)) (nI_clamp (by omega)) ?_
      rw [tDS_31, tDS_p31]
      refine r_aload_n dX10_tells_208 rfl ?_
      refine r_getR dX10_tells_209 fl_X10_112 rfl (kM_0 hM) (pM_62 hM) ?_
      refine r_iload dX10_tells_212 rfl ?_
      refine r_iald dX10_tells_214 (aM_62 hM) (nI_in8 9 (by omega) (by decide)) (nI_clamp (by omega)) ?_
      rw [tDS_30, am_up_s]
      refine r_aload_n dX10_tells_215 rfl ?_
      refine r_getI dX10_tells_216 fl_X10_350 rfl (kM_0 hM) ?_
      rw [tDS_m, hI1]
      refine r_icmp_ge (tgt := 236) dX10_tells_219 (by decide) (fun hz => absurd hz (show ¬ _ from (by rw [nI_leI (by omega) (by omega)]; omega))) (fun _ => ?_)
      refine r_iload dX10_tells_222 rfl ?_
      refine r_if_gt (tgt := 242) dX10_tells_224 (by decide) (fun hz => absurd hz (show ¬ _ from (by decide))) (fun _ => ?_)
      refine r_iload dX10_tells_227 rfl ?_
      refine r_iconst (v := (-1)) dX10_tells_229 (by decide) ?_
      refine r_icmp_ne (tgt := 236) dX10_tells_230 (by decide) (fun _ => ?_) (fun hz => absurd hz (show ¬ _ from (nI_m1 (by omega))))
      refine r_iinc (v := (-1)) dX10_tells_236 rfl (by decide) ?_
      refine r_goto (tgt := 184) dX10_tells_239 (by decide) ?_
      refine r_iload dX10_tells_184 rfl ?_
      refine r_if_lt (tgt := 242) dX10_tells_186 (by decide) (fun _ => ?_) (fun hz => absurd (show _ from (by decide)) hz)
      refine r_iload dX10_tells_242 rfl ?_
      refine r_if_ge (tgt := 249) dX10_tells_244 (by decide) (fun hz => absurd hz (show ¬ _ from (by decide))) (fun _ => ?_)
      refine r_iconst (v := nI 0) dX10_tells_247 (by decide) ?_
      refine r_zret rfl dX10_tells_248 (by first | exact Or.inl rfl | exact Or.inr rfl | assumption) ?_
      exact ⟨_, _, _, am_is.mk⟩
    · skip
      refine r_iload dX10_tells_184 rfl ?_
      refine r_if_lt (tgt := 242) dX10_tells_186 (by decide) (fun hz => absurd hz (show ¬ _ from (z_nlt (by omega)))) (fun _ => ?_)
      refine r_aload_n dX10_tells_189 rfl ?_
      refine r_getR dX10_tells_190 fl_X10_112 rfl (kM_0 hM) (pM_62 hM) ?_
      refine r_iload dX10_tells_193 rfl ?_
      refine r_dup2 dX10_tells_195 rfl rfl ?_
      refine r_iald dX10_tells_196 (aM_62 hM) (nI_in8 9 (by omega) (by decide)) (nI_clamp (by omega)) ?_
      rw [tDS_30, g3]
      refine r_iconst (v := nI 1) dX10_tells_197 (by decide) ?_
      refine r_iadd dX10_tells_198 ?_
      rw [nI_add]
      refine r_iast dX10_tells_199 (aM_62 hM) (nI_in8 9 (by omega) (by decide)) (nI_clamp (by omega)) ?_
      rw [tDS_30, tDS_p30]
      refine r_aload_n dX10_tells_200 rfl ?_
      refine r_getR dX10_tells_201 fl_X10_115 rfl (kM_0 hM) (pM_63 hM) ?_
      refine r_iload dX10_tells_204 rfl ?_
      refine r_iconst (v := nI 0) dX10_tells_206 (by decide) ?_
      refine r_iast dX10_tells_207 (aM_63 hM) (nI_in8 9 (by omega) (by decide)) (nI_clamp (by omega)) ?_
      rw [tDS_31, tDS_p31]
      refine r_aload_n dX10_tells_208 rfl ?_
      refine r_getR dX10_tells_209 fl_X10_112 rfl (kM_0 hM) (pM_62 hM) ?_
      refine r_iload dX10_tells_212 rfl ?_
      refine r_iald dX10_tells_214 (aM_62 hM) (nI_in8 9 (by omega) (by decide)) (nI_clamp (by omega)) ?_
      rw [tDS_30, am_up_s]
      refine r_aload_n dX10_tells_215 rfl ?_
      refine r_getI dX10_tells_216 fl_X10_350 rfl (kM_0 hM) ?_
      rw [tDS_m, hI1]
      refine r_icmp_ge (tgt := 236) dX10_tells_219 (by decide) (fun _ => ?_) (fun hz => absurd (show _ from (by rw [nI_leI (by omega) (by omega)]; omega)) hz)
      refine r_iinc (v := (-1)) dX10_tells_236 rfl (by decide) ?_
      refine r_goto (tgt := 184) dX10_tells_239 (by decide) ?_
      refine r_iload dX10_tells_184 rfl ?_
      refine r_if_lt (tgt := 242) dX10_tells_186 (by decide) (fun _ => ?_) (fun hz => absurd (show _ from (by decide)) hz)
      refine r_iload dX10_tells_242 rfl ?_
      refine r_if_ge (tgt := 249) dX10_tells_244 (by decide) (fun hz => absurd hz (show ¬ _ from (by decide))) (fun _ => ?_)
      refine r_iconst (v := nI 0) dX10_tells_247 (by decide) ?_
      refine r_zret rfl dX10_tells_248 (by first | exact Or.inl rfl | exact Or.inr rfl | assumption) ?_
      exact ⟨_, _, _, am_is.mk⟩)
  unfold tDS at hA
  refine r_lload_n dX10_tells_0 rfl ?_
  refine r_statE (c_X10_isOne w0 hw) lk_X10_451 mc_X10_isOne dX10_tells_1 (by decide) rfl rfl (Nat.le_of_ble_eq_true rfl) ?_
  rw [ho2]
  refine r_if_eq (tgt := 9) dX10_tells_4 (by decide) (fun _ => ?_) (fun hz => absurd (show _ from (by decide)) hz)
  refine r_iload_n dX10_tells_9 rfl ?_
  refine r_if_ne (tgt := 15) dX10_tells_10 (by decide) (fun _ => ?_) (fun hz => absurd hz (show ¬ _ from (by rw [z_eq (by omega)]; omega)))
  refine r_iconst (v := nI 0) dX10_tells_15 (by decide) ?_
  refine r_istore dX10_tells_16 (by decide) ?_
  refine r_aload_n dX10_tells_18 rfl ?_
  refine r_getR dX10_tells_19 fl_X10_109 rfl (kM_0 hM) (pM_61 hM) ?_
  refine r_iconst (v := nI 0) dX10_tells_22 (by decide) ?_
  refine r_lload_n dX10_tells_23 rfl ?_
  refine r_last dX10_tells_24 (aM_61 hM) (nI_in8 9 (j := 0) (by omega) (by decide)) (nI_clamp (n := 0) (by omega)) ?_
  refine r_aload_n dX10_tells_25 rfl ?_
  refine r_getR dX10_tells_26 fl_X10_112 rfl (kM_0 hM) (pM_62 hM) ?_
  refine r_iconst (v := nI 0) dX10_tells_29 (by decide) ?_
  refine r_iload dX10_tells_30 rfl ?_
  refine r_iconst (v := (-1)) dX10_tells_32 (by decide) ?_
  refine r_icmp_ne (tgt := 40) dX10_tells_33 (by decide) (fun _ => ?_) (fun hz => absurd hz (show ¬ _ from (nI_m1 (by omega))))
  refine r_iload dX10_tells_40 rfl ?_
  refine r_iast dX10_tells_42 (aM_62 hM) (nI_in8 9 (j := 0) (by omega) (by decide)) (nI_clamp (n := 0) (by omega)) ?_
  refine r_aload_n dX10_tells_43 rfl ?_
  refine r_getR dX10_tells_44 fl_X10_115 rfl (kM_0 hM) (pM_63 hM) ?_
  refine r_iconst (v := nI 0) dX10_tells_47 (by decide) ?_
  refine r_iconst (v := nI 0) dX10_tells_48 (by decide) ?_
  refine r_iast dX10_tells_49 (aM_63 hM) (nI_in8 9 (j := 0) (by omega) (by decide)) (nI_clamp (n := 0) (by omega)) ?_
  rw [am_up_n _ _ (by omega : m + 31 ≠ m + 30)]
  exact hA


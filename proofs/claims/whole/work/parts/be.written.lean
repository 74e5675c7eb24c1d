/-! WRITTEN, on any state, both sides -/
theorem dgs_dg (v : Nat) : dgs v = dg v := by unfold dgs dg; split <;> rfl
theorem dg_le (v : Nat) : (dg v).length ≤ 2 := by unfold dg; split <;> simp
def txS (cs : Nat → List Nat) (tx : Nat → List Int32) : Nat → Nat
  | 0 => 0
  | h + 1 => txS cs tx h + (12 + if cs h = [] then 0 else 6 + (tx h).length)
/-- texts as they may be -/
def okX (H : Nat) (cs : Nat → List Nat) (tx : Nat → List Int32) : Prop := txS cs tx H ≤ 1080 ∧ ∀ h, h < H → cs h ≠ [] → ∀ c ∈ tx h, c.toInt8.toInt32 = c
theorem txS_mono (cs : Nat → List Nat) (tx : Nat → List Int32) (a : Nat) : ∀ d, txS cs tx a ≤ txS cs tx (a + d)
  | 0 => Nat.le_refl _
  | d + 1 => Nat.le_trans (txS_mono cs tx a d) (Nat.le_add_right _ _)
theorem hs_len (cs : Nat → List Nat) (tx : Nat → List Int32) (e : Lf) (h : Nat) : (hsP cs tx e h).length ≤ 12 + if cs h = [] then 0 else 6 + (tx h).length := by
  unfold hsP
  rw [dgs_dg, dgs_dg]
  have h1 := dg_le (e.1 h)
  have h2 := dg_le (e.2.1 h)
  split
  · simp only [List.length_append, List.length_cons, List.length_nil]; omega
  · simp only [List.length_append, List.length_cons, List.length_nil]; omega
theorem hss_len (cs : Nat → List Nat) (tx : Nat → List Int32) (e : Lf) : ∀ h, (hssP cs tx e h).length ≤ txS cs tx h
  | 0 => Nat.le_refl _
  | h + 1 => by
    show (hssP cs tx e h ++ hsP cs tx e h).length ≤ txS cs tx h + _
    rw [List.length_append]
    exact Nat.add_le_add (hss_len cs tx e h) (hs_len cs tx e h)
def hdP (M : Nat) (un : Bool) : List Int32 := [nI 109, nI 111, nI 115, nI 116, nI 32] ++ dgs M ++ [nI 59] ++ (if un then [nI 117, nI 110, nI 108, nI 105, nI 107, nI 101, nI 59] else [])
theorem hdP_len (M : Nat) (un : Bool) : (hdP M un).length ≤ 15 := by
  unfold hdP
  rw [dgs_dg]
  have := dg_le M
  cases un <;> simp <;> omega
theorem pg_hd {H M : Nat} {un : Bool} {cs : Nat → List Nat} {tx : Nat → List Int32} {e : Lf} : pgO H M un cs tx e = hdP M un ++ hssP cs tx e H := rfl
theorem pg_len {H M : Nat} {un : Bool} {cs : Nat → List Nat} {tx : Nat → List Int32} {e : Lf} (hx : okX H cs tx) : (pgO H M un cs tx e).length ≤ 1100 := by
  rw [pg_hd, List.length_append]
  have h1 := hdP_len M un
  have h2 := hss_len cs tx e H
  have h3 := hx.1
  omega
theorem pgR_nil (m : Nat) (I : mI) : va_up I m (va_up (I m) 77 (nI 0)) = pgR m [] I := by
  unfold pgR
  rw [show (fun j => ([] : List Int32).getD j (I (m + 40) j)) = I (m + 40) from rfl, am_up_id]
  rfl
theorem dX10_writesAll_0 : decode cX10_writesAll 0 = .ok (.aload_n 0, 1) := by decide +kernel
theorem dX10_writesAll_1 : decode cX10_writesAll 1 = .ok (.iconst 0, 1) := by decide +kernel
theorem dX10_writesAll_2 : decode cX10_writesAll 2 = .ok (.putfield 505, 3) := by decide +kernel
theorem dX10_writesAll_5 : decode cX10_writesAll 5 = .ok (.aload_n 0, 1) := by decide +kernel
theorem dX10_writesAll_6 : decode cX10_writesAll 6 = .ok (.iconst 5, 1) := by decide +kernel
theorem dX10_writesAll_7 : decode cX10_writesAll 7 = .ok (.invokevirtual 514, 3) := by decide +kernel
theorem dX10_writesAll_10 : decode cX10_writesAll 10 = .ok (.aload_n 0, 1) := by decide +kernel
theorem dX10_writesAll_11 : decode cX10_writesAll 11 = .ok (.bipush 32, 2) := by decide +kernel
theorem dX10_writesAll_13 : decode cX10_writesAll 13 = .ok (.invokevirtual 508, 3) := by decide +kernel
theorem dX10_writesAll_16 : decode cX10_writesAll 16 = .ok (.aload_n 0, 1) := by decide +kernel
theorem dX10_writesAll_17 : decode cX10_writesAll 17 = .ok (.aload_n 0, 1) := by decide +kernel
theorem dX10_writesAll_18 : decode cX10_writesAll 18 = .ok (.getfield 7, 3) := by decide +kernel
theorem dX10_writesAll_21 : decode cX10_writesAll 21 = .ok (.invokevirtual 517, 3) := by decide +kernel
theorem dX10_writesAll_24 : decode cX10_writesAll 24 = .ok (.aload_n 0, 1) := by decide +kernel
theorem dX10_writesAll_25 : decode cX10_writesAll 25 = .ok (.bipush 59, 2) := by decide +kernel
theorem dX10_writesAll_27 : decode cX10_writesAll 27 = .ok (.invokevirtual 508, 3) := by decide +kernel
theorem dX10_writesAll_30 : decode cX10_writesAll 30 = .ok (.aload_n 0, 1) := by decide +kernel
theorem dX10_writesAll_31 : decode cX10_writesAll 31 = .ok (.getfield 353, 3) := by decide +kernel
theorem dX10_writesAll_34 : decode cX10_writesAll 34 = .ok (.ifCond .eq 15, 3) := by decide +kernel
theorem dX10_writesAll_37 : decode cX10_writesAll 37 = .ok (.aload_n 0, 1) := by decide +kernel
theorem dX10_writesAll_38 : decode cX10_writesAll 38 = .ok (.bipush 7, 2) := by decide +kernel
theorem dX10_writesAll_40 : decode cX10_writesAll 40 = .ok (.invokevirtual 514, 3) := by decide +kernel
theorem dX10_writesAll_43 : decode cX10_writesAll 43 = .ok (.aload_n 0, 1) := by decide +kernel
theorem dX10_writesAll_44 : decode cX10_writesAll 44 = .ok (.bipush 59, 2) := by decide +kernel
theorem dX10_writesAll_46 : decode cX10_writesAll 46 = .ok (.invokevirtual 508, 3) := by decide +kernel
theorem dX10_writesAll_49 : decode cX10_writesAll 49 = .ok (.iconst 0, 1) := by decide +kernel
theorem dX10_writesAll_50 : decode cX10_writesAll 50 = .ok (.istore_n 1, 1) := by decide +kernel
theorem dX10_writesAll_51 : decode cX10_writesAll 51 = .ok (.iload_n 1, 1) := by decide +kernel
theorem dX10_writesAll_52 : decode cX10_writesAll 52 = .ok (.aload_n 0, 1) := by decide +kernel
theorem dX10_writesAll_53 : decode cX10_writesAll 53 = .ok (.getfield 350, 3) := by decide +kernel
theorem dX10_writesAll_56 : decode cX10_writesAll 56 = .ok (.if_icmp .ge 86, 3) := by decide +kernel
theorem dX10_writesAll_59 : decode cX10_writesAll 59 = .ok (.aload_n 0, 1) := by decide +kernel
theorem dX10_writesAll_60 : decode cX10_writesAll 60 = .ok (.bipush 8, 2) := by decide +kernel
theorem dX10_writesAll_62 : decode cX10_writesAll 62 = .ok (.invokevirtual 514, 3) := by decide +kernel
theorem dX10_writesAll_65 : decode cX10_writesAll 65 = .ok (.aload_n 0, 1) := by decide +kernel
theorem dX10_writesAll_66 : decode cX10_writesAll 66 = .ok (.bipush 32, 2) := by decide +kernel
theorem dX10_writesAll_68 : decode cX10_writesAll 68 = .ok (.invokevirtual 508, 3) := by decide +kernel
theorem dX10_writesAll_71 : decode cX10_writesAll 71 = .ok (.aload_n 0, 1) := by decide +kernel
theorem dX10_writesAll_72 : decode cX10_writesAll 72 = .ok (.aload_n 0, 1) := by decide +kernel
theorem dX10_writesAll_73 : decode cX10_writesAll 73 = .ok (.getfield 13, 3) := by decide +kernel
theorem dX10_writesAll_76 : decode cX10_writesAll 76 = .ok (.iload_n 1, 1) := by decide +kernel
theorem dX10_writesAll_77 : decode cX10_writesAll 77 = .ok (.iaload, 1) := by decide +kernel
theorem dX10_writesAll_78 : decode cX10_writesAll 78 = .ok (.invokevirtual 517, 3) := by decide +kernel
theorem dX10_writesAll_81 : decode cX10_writesAll 81 = .ok (.aload_n 0, 1) := by decide +kernel
theorem dX10_writesAll_82 : decode cX10_writesAll 82 = .ok (.bipush 32, 2) := by decide +kernel
theorem dX10_writesAll_84 : decode cX10_writesAll 84 = .ok (.invokevirtual 508, 3) := by decide +kernel
theorem dX10_writesAll_87 : decode cX10_writesAll 87 = .ok (.aload_n 0, 1) := by decide +kernel
theorem dX10_writesAll_88 : decode cX10_writesAll 88 = .ok (.aload_n 0, 1) := by decide +kernel
theorem dX10_writesAll_89 : decode cX10_writesAll 89 = .ok (.getfield 17, 3) := by decide +kernel
theorem dX10_writesAll_92 : decode cX10_writesAll 92 = .ok (.iload_n 1, 1) := by decide +kernel
theorem dX10_writesAll_93 : decode cX10_writesAll 93 = .ok (.iaload, 1) := by decide +kernel
theorem dX10_writesAll_94 : decode cX10_writesAll 94 = .ok (.invokevirtual 517, 3) := by decide +kernel
theorem dX10_writesAll_97 : decode cX10_writesAll 97 = .ok (.aload_n 0, 1) := by decide +kernel
theorem dX10_writesAll_98 : decode cX10_writesAll 98 = .ok (.getfield 20, 3) := by decide +kernel
theorem dX10_writesAll_101 : decode cX10_writesAll 101 = .ok (.iload_n 1, 1) := by decide +kernel
theorem dX10_writesAll_102 : decode cX10_writesAll 102 = .ok (.iaload, 1) := by decide +kernel
theorem dX10_writesAll_103 : decode cX10_writesAll 103 = .ok (.iconst 1, 1) := by decide +kernel
theorem dX10_writesAll_104 : decode cX10_writesAll 104 = .ok (.if_icmp .ne 26, 3) := by decide +kernel
theorem dX10_writesAll_107 : decode cX10_writesAll 107 = .ok (.aload_n 0, 1) := by decide +kernel
theorem dX10_writesAll_108 : decode cX10_writesAll 108 = .ok (.bipush 32, 2) := by decide +kernel
theorem dX10_writesAll_110 : decode cX10_writesAll 110 = .ok (.invokevirtual 508, 3) := by decide +kernel
theorem dX10_writesAll_113 : decode cX10_writesAll 113 = .ok (.aload_n 0, 1) := by decide +kernel
theorem dX10_writesAll_114 : decode cX10_writesAll 114 = .ok (.bipush 9, 2) := by decide +kernel
theorem dX10_writesAll_116 : decode cX10_writesAll 116 = .ok (.invokevirtual 514, 3) := by decide +kernel
theorem dX10_writesAll_119 : decode cX10_writesAll 119 = .ok (.aload_n 0, 1) := by decide +kernel
theorem dX10_writesAll_120 : decode cX10_writesAll 120 = .ok (.bipush 32, 2) := by decide +kernel
theorem dX10_writesAll_122 : decode cX10_writesAll 122 = .ok (.invokevirtual 508, 3) := by decide +kernel
theorem dX10_writesAll_125 : decode cX10_writesAll 125 = .ok (.aload_n 0, 1) := by decide +kernel
theorem dX10_writesAll_126 : decode cX10_writesAll 126 = .ok (.iload_n 1, 1) := by decide +kernel
theorem dX10_writesAll_127 : decode cX10_writesAll 127 = .ok (.invokevirtual 520, 3) := by decide +kernel
theorem dX10_writesAll_130 : decode cX10_writesAll 130 = .ok (.aload_n 0, 1) := by decide +kernel
theorem dX10_writesAll_131 : decode cX10_writesAll 131 = .ok (.bipush 59, 2) := by decide +kernel
theorem dX10_writesAll_133 : decode cX10_writesAll 133 = .ok (.invokevirtual 508, 3) := by decide +kernel
theorem dX10_writesAll_136 : decode cX10_writesAll 136 = .ok (.iinc 1 1, 3) := by decide +kernel
theorem dX10_writesAll_139 : decode cX10_writesAll 139 = .ok (.goto (-88), 3) := by decide +kernel
theorem dX10_writesAll_142 : decode cX10_writesAll 142 = .ok (.return_, 1) := by decide +kernel

set_option maxHeartbeats 4000000 in
set_option maxRecDepth 100000 in
theorem w_wall (m : Nat) {H M : Nat} {un : Bool} {cs : Nat → List Nat} {tx : Nat → List Int32} {e : Lf} {n : Nat} {kd : mK} {I : mI} {J : mJ} {P : mP} (hM : kM kd P m) (hSt : rS I m H M un cs tx) (hLf : rL I m H e) (oS : okS H M cs) (oL : okL H M e) (hx : okX H cs tx) : ∀ (c h : Nat) (bs : List Int32), h + c = H → bs = hdP M un ++ hssP cs tx e h → Ru yX10_writesAll.cls cX10_writesAll 2 none yX10_writesAll.name 5 (am_is none n kd (pgR m (hdP M un ++ hssP cs tx e H) I) J P) 0 0 51 [some (.ref m), some (.int (nI h))] [] n kd (pgR m bs I) J P
  | 0, h, bs, hc, hb => by
    have hH8 := oS.2.1
    rw [show h = H by omega] at hb ⊢
    rw [← hb]
    refine r_iload_n dX10_writesAll_51 rfl ?_
    refine r_aload_n dX10_writesAll_52 rfl ?_
    refine r_getI dX10_writesAll_53 fl_X10_350 rfl hM.1 ?_
    rw [pgR_j (by decide), hSt.1.1]
    refine r_icmp_ge (tgt := 142) dX10_writesAll_56 (by decide) (fun _ => ?_) (fun hz => absurd (show _ from (by rw [nI_leI (by omega) (by omega)]; omega)) hz)
    refine r_vret rfl dX10_writesAll_142 ?_
    exact am_is.mk
  | c + 1, h, bs, hc, hb => by
    have hH8 := oS.2.1
    have hh : h < H := by omega
    have hl1 := hdP_len M un
    have hl2 := hss_len cs tx e h
    have hl3 := hx.1
    have hl4 : txS cs tx (h + 1) ≤ txS cs tx H := by have := txS_mono cs tx (h + 1) c; rwa [show h + 1 + c = H by omega] at this
    have hl5 : txS cs tx (h + 1) = txS cs tx h + (12 + if cs h = [] then 0 else 6 + (tx h).length) := rfl
    have hl6 : bs.length ≤ 15 + txS cs tx h := by rw [hb, List.length_append]; omega
    have hd1 := dg_le (e.1 h)
    have hd2 := dg_le (e.2.1 h)
    have hs9 := oL.1 h hh
    by_cases c9 : cs h = []
    · have c8 := c9
      rw [if_pos c9] at hl5
      refine r_iload_n dX10_writesAll_51 rfl ?_
      refine r_aload_n dX10_writesAll_52 rfl ?_
      refine r_getI dX10_writesAll_53 fl_X10_350 rfl hM.1 ?_
      rw [pgR_j (by decide), hSt.1.1]
      refine r_icmp_ge (tgt := 142) dX10_writesAll_56 (by decide) (fun hz => absurd hz (show ¬ _ from (by rw [nI_leI (by omega) (by omega)]; omega))) (fun _ => ?_)
      refine r_aload_n dX10_writesAll_59 rfl ?_
      refine r_bipush (v := nI 8) dX10_writesAll_60 (by decide) ?_
      refine r_virtV (c_rword_8 m bs hM (by (try simp only [List.length_append, List.length_cons, List.length_nil]); omega)) lk_X10_514 mc_X10_writesWord dX10_writesAll_62 hM.1 (by decide) rfl rfl (Nat.le_of_ble_eq_true rfl) ?_
      refine r_aload_n dX10_writesAll_65 rfl ?_
      refine r_bipush (v := nI 32) dX10_writesAll_66 (by decide) ?_
      refine r_virtV (c_rw m (bs ++ [nI 104, nI 111, nI 117, nI 115, nI 101]) (nI 32) hM (by (try simp only [List.length_append, List.length_cons, List.length_nil]); omega)) lk_X10_508 mc_X10_writes dX10_writesAll_68 hM.1 (by decide) rfl rfl (Nat.le_of_ble_eq_true rfl) ?_
      refine r_aload_n dX10_writesAll_71 rfl ?_
      refine r_aload_n dX10_writesAll_72 rfl ?_
      refine r_getR dX10_writesAll_73 fl_X10_13 rfl (kM_0 hM) (pM_4 hM) ?_
      refine r_iload_n dX10_writesAll_76 rfl ?_
      refine r_iald dX10_writesAll_77 (aM_4 hM) (nI_in8 8 (by omega) (by decide)) (nI_clamp (by omega)) ?_
      rw [pgR_n (by omega) (by omega), (hLf.1 h hh).1]
      refine r_virtV (c_rn m (e.1 h) ((bs ++ [nI 104, nI 111, nI 117, nI 115, nI 101]) ++ [nI 32]) hM (by omega) (by (try simp only [List.length_append, List.length_cons, List.length_nil]); omega)) lk_X10_517 mc_X10_writesNumber dX10_writesAll_78 hM.1 (by decide) rfl rfl (Nat.le_of_ble_eq_true rfl) ?_
      refine r_aload_n dX10_writesAll_81 rfl ?_
      refine r_bipush (v := nI 32) dX10_writesAll_82 (by decide) ?_
      refine r_virtV (c_rw m (((bs ++ [nI 104, nI 111, nI 117, nI 115, nI 101]) ++ [nI 32]) ++ dg (e.1 h)) (nI 32) hM (by (try simp only [List.length_append, List.length_cons, List.length_nil]); omega)) lk_X10_508 mc_X10_writes dX10_writesAll_84 hM.1 (by decide) rfl rfl (Nat.le_of_ble_eq_true rfl) ?_
      refine r_aload_n dX10_writesAll_87 rfl ?_
      refine r_aload_n dX10_writesAll_88 rfl ?_
      refine r_getR dX10_writesAll_89 fl_X10_17 rfl (kM_0 hM) (pM_5 hM) ?_
      refine r_iload_n dX10_writesAll_92 rfl ?_
      refine r_iald dX10_writesAll_93 (aM_5 hM) (nI_in8 8 (by omega) (by decide)) (nI_clamp (by omega)) ?_
      rw [pgR_n (by omega) (by omega), (hLf.1 h hh).2.1]
      refine r_virtV (c_rn m (e.2.1 h) ((((bs ++ [nI 104, nI 111, nI 117, nI 115, nI 101]) ++ [nI 32]) ++ dg (e.1 h)) ++ [nI 32]) hM (by omega) (by (try simp only [List.length_append, List.length_cons, List.length_nil]); omega)) lk_X10_517 mc_X10_writesNumber dX10_writesAll_94 hM.1 (by decide) rfl rfl (Nat.le_of_ble_eq_true rfl) ?_
      refine r_aload_n dX10_writesAll_97 rfl ?_
      refine r_getR dX10_writesAll_98 fl_X10_20 rfl (kM_0 hM) (pM_6 hM) ?_
      refine r_iload_n dX10_writesAll_101 rfl ?_
      refine r_iald dX10_writesAll_102 (aM_6 hM) (nI_in8 8 (by omega) (by decide)) (nI_clamp (by omega)) ?_
      rw [pgR_n (by omega) (by omega), (hSt.2.2 h hh).1, if_pos c9]
      refine r_iconst (v := nI 1) dX10_writesAll_103 (by decide) ?_
      refine r_icmp_ne (tgt := 130) dX10_writesAll_104 (by decide) (fun _ => ?_) (fun hz => absurd hz (show ¬ _ from (by decide)))
      refine r_aload_n dX10_writesAll_130 rfl ?_
      refine r_bipush (v := nI 59) dX10_writesAll_131 (by decide) ?_
      refine r_virtV (c_rw m (((((bs ++ [nI 104, nI 111, nI 117, nI 115, nI 101]) ++ [nI 32]) ++ dg (e.1 h)) ++ [nI 32]) ++ dg (e.2.1 h)) (nI 59) hM (by (try simp only [List.length_append, List.length_cons, List.length_nil]); omega)) lk_X10_508 mc_X10_writes dX10_writesAll_133 hM.1 (by decide) rfl rfl (Nat.le_of_ble_eq_true rfl) ?_
      refine r_iinc (v := nI (h + 1)) dX10_writesAll_136 rfl (nI_inc h) ?_
      refine r_goto (tgt := 51) dX10_writesAll_139 (by decide) ?_
      rw [show ((((((bs ++ [nI 104, nI 111, nI 117, nI 115, nI 101]) ++ [nI 32]) ++ dg (e.1 h)) ++ [nI 32]) ++ dg (e.2.1 h)) ++ [nI 59]) = bs ++ hsP cs tx e h from by unfold hsP; rw [dgs_dg, dgs_dg, if_pos c9]; simp only [List.append_assoc, List.cons_append, List.nil_append]]
      exact w_wall m hM hSt hLf oS oL hx c (h + 1) (bs ++ hsP cs tx e h) (by omega) (by rw [hb]; show _ = _ ++ (hssP cs tx e h ++ hsP cs tx e h); rw [List.append_assoc])
    · have c8 := c9
      rw [if_neg c9] at hl5
      obtain ⟨p, q, hp1, hp2, hp3, hp4⟩ := ((hSt.2.2 h hh).2.2 c9).2
      refine r_iload_n dX10_writesAll_51 rfl ?_
      refine r_aload_n dX10_writesAll_52 rfl ?_
      refine r_getI dX10_writesAll_53 fl_X10_350 rfl hM.1 ?_
      rw [pgR_j (by decide), hSt.1.1]
      refine r_icmp_ge (tgt := 142) dX10_writesAll_56 (by decide) (fun hz => absurd hz (show ¬ _ from (by rw [nI_leI (by omega) (by omega)]; omega))) (fun _ => ?_)
      refine r_aload_n dX10_writesAll_59 rfl ?_
      refine r_bipush (v := nI 8) dX10_writesAll_60 (by decide) ?_
      refine r_virtV (c_rword_8 m bs hM (by (try simp only [List.length_append, List.length_cons, List.length_nil]); omega)) lk_X10_514 mc_X10_writesWord dX10_writesAll_62 hM.1 (by decide) rfl rfl (Nat.le_of_ble_eq_true rfl) ?_
      refine r_aload_n dX10_writesAll_65 rfl ?_
      refine r_bipush (v := nI 32) dX10_writesAll_66 (by decide) ?_
      refine r_virtV (c_rw m (bs ++ [nI 104, nI 111, nI 117, nI 115, nI 101]) (nI 32) hM (by (try simp only [List.length_append, List.length_cons, List.length_nil]); omega)) lk_X10_508 mc_X10_writes dX10_writesAll_68 hM.1 (by decide) rfl rfl (Nat.le_of_ble_eq_true rfl) ?_
      refine r_aload_n dX10_writesAll_71 rfl ?_
      refine r_aload_n dX10_writesAll_72 rfl ?_
      refine r_getR dX10_writesAll_73 fl_X10_13 rfl (kM_0 hM) (pM_4 hM) ?_
      refine r_iload_n dX10_writesAll_76 rfl ?_
      refine r_iald dX10_writesAll_77 (aM_4 hM) (nI_in8 8 (by omega) (by decide)) (nI_clamp (by omega)) ?_
      rw [pgR_n (by omega) (by omega), (hLf.1 h hh).1]
      refine r_virtV (c_rn m (e.1 h) ((bs ++ [nI 104, nI 111, nI 117, nI 115, nI 101]) ++ [nI 32]) hM (by omega) (by (try simp only [List.length_append, List.length_cons, List.length_nil]); omega)) lk_X10_517 mc_X10_writesNumber dX10_writesAll_78 hM.1 (by decide) rfl rfl (Nat.le_of_ble_eq_true rfl) ?_
      refine r_aload_n dX10_writesAll_81 rfl ?_
      refine r_bipush (v := nI 32) dX10_writesAll_82 (by decide) ?_
      refine r_virtV (c_rw m (((bs ++ [nI 104, nI 111, nI 117, nI 115, nI 101]) ++ [nI 32]) ++ dg (e.1 h)) (nI 32) hM (by (try simp only [List.length_append, List.length_cons, List.length_nil]); omega)) lk_X10_508 mc_X10_writes dX10_writesAll_84 hM.1 (by decide) rfl rfl (Nat.le_of_ble_eq_true rfl) ?_
      refine r_aload_n dX10_writesAll_87 rfl ?_
      refine r_aload_n dX10_writesAll_88 rfl ?_
      refine r_getR dX10_writesAll_89 fl_X10_17 rfl (kM_0 hM) (pM_5 hM) ?_
      refine r_iload_n dX10_writesAll_92 rfl ?_
      refine r_iald dX10_writesAll_93 (aM_5 hM) (nI_in8 8 (by omega) (by decide)) (nI_clamp (by omega)) ?_
      rw [pgR_n (by omega) (by omega), (hLf.1 h hh).2.1]
      refine r_virtV (c_rn m (e.2.1 h) ((((bs ++ [nI 104, nI 111, nI 117, nI 115, nI 101]) ++ [nI 32]) ++ dg (e.1 h)) ++ [nI 32]) hM (by omega) (by (try simp only [List.length_append, List.length_cons, List.length_nil]); omega)) lk_X10_517 mc_X10_writesNumber dX10_writesAll_94 hM.1 (by decide) rfl rfl (Nat.le_of_ble_eq_true rfl) ?_
      refine r_aload_n dX10_writesAll_97 rfl ?_
      refine r_getR dX10_writesAll_98 fl_X10_20 rfl (kM_0 hM) (pM_6 hM) ?_
      refine r_iload_n dX10_writesAll_101 rfl ?_
      refine r_iald dX10_writesAll_102 (aM_6 hM) (nI_in8 8 (by omega) (by decide)) (nI_clamp (by omega)) ?_
      rw [pgR_n (by omega) (by omega), (hSt.2.2 h hh).1, if_neg c9]
      refine r_iconst (v := nI 1) dX10_writesAll_103 (by decide) ?_
      refine r_icmp_ne (tgt := 130) dX10_writesAll_104 (by decide) (fun hz => absurd (show _ from rfl) hz) (fun _ => ?_)
      refine r_aload_n dX10_writesAll_107 rfl ?_
      refine r_bipush (v := nI 32) dX10_writesAll_108 (by decide) ?_
      refine r_virtV (c_rw m (((((bs ++ [nI 104, nI 111, nI 117, nI 115, nI 101]) ++ [nI 32]) ++ dg (e.1 h)) ++ [nI 32]) ++ dg (e.2.1 h)) (nI 32) hM (by (try simp only [List.length_append, List.length_cons, List.length_nil]); omega)) lk_X10_508 mc_X10_writes dX10_writesAll_110 hM.1 (by decide) rfl rfl (Nat.le_of_ble_eq_true rfl) ?_
      refine r_aload_n dX10_writesAll_113 rfl ?_
      refine r_bipush (v := nI 9) dX10_writesAll_114 (by decide) ?_
      refine r_virtV (c_rword_9 m ((((((bs ++ [nI 104, nI 111, nI 117, nI 115, nI 101]) ++ [nI 32]) ++ dg (e.1 h)) ++ [nI 32]) ++ dg (e.2.1 h)) ++ [nI 32]) hM (by (try simp only [List.length_append, List.length_cons, List.length_nil]); omega)) lk_X10_514 mc_X10_writesWord dX10_writesAll_116 hM.1 (by decide) rfl rfl (Nat.le_of_ble_eq_true rfl) ?_
      refine r_aload_n dX10_writesAll_119 rfl ?_
      refine r_bipush (v := nI 32) dX10_writesAll_120 (by decide) ?_
      refine r_virtV (c_rw m (((((((bs ++ [nI 104, nI 111, nI 117, nI 115, nI 101]) ++ [nI 32]) ++ dg (e.1 h)) ++ [nI 32]) ++ dg (e.2.1 h)) ++ [nI 32]) ++ [nI 115, nI 97, nI 121, nI 115]) (nI 32) hM (by (try simp only [List.length_append, List.length_cons, List.length_nil]); omega)) lk_X10_508 mc_X10_writes dX10_writesAll_122 hM.1 (by decide) rfl rfl (Nat.le_of_ble_eq_true rfl) ?_
      refine r_aload_n dX10_writesAll_125 rfl ?_
      refine r_iload_n dX10_writesAll_126 rfl ?_
      have hrd := c_X10_writesRiddle (n := n) (kd := kd) (I := I) (J := J) (P := P) m h p q ((((((((bs ++ [nI 104, nI 111, nI 117, nI 115, nI 101]) ++ [nI 32]) ++ dg (e.1 h)) ++ [nI 32]) ++ dg (e.2.1 h)) ++ [nI 32]) ++ [nI 115, nI 97, nI 121, nI 115]) ++ [nI 32]) hM (by omega) hp1 hp2 hp3 (by rw [hp4]; (try simp only [List.length_append, List.length_cons, List.length_nil]); omega)
      rw [hp4] at hrd
      refine r_virtV (hrd) lk_X10_520 mc_X10_writesRiddle dX10_writesAll_127 hM.1 (by decide) rfl rfl (Nat.le_of_ble_eq_true rfl) ?_
      refine r_aload_n dX10_writesAll_130 rfl ?_
      refine r_bipush (v := nI 59) dX10_writesAll_131 (by decide) ?_
      refine r_virtV (c_rw m (((((((((bs ++ [nI 104, nI 111, nI 117, nI 115, nI 101]) ++ [nI 32]) ++ dg (e.1 h)) ++ [nI 32]) ++ dg (e.2.1 h)) ++ [nI 32]) ++ [nI 115, nI 97, nI 121, nI 115]) ++ [nI 32]) ++ tx h) (nI 59) hM (by (try simp only [List.length_append, List.length_cons, List.length_nil]); omega)) lk_X10_508 mc_X10_writes dX10_writesAll_133 hM.1 (by decide) rfl rfl (Nat.le_of_ble_eq_true rfl) ?_
      refine r_iinc (v := nI (h + 1)) dX10_writesAll_136 rfl (nI_inc h) ?_
      refine r_goto (tgt := 51) dX10_writesAll_139 (by decide) ?_
      rw [show ((((((((((bs ++ [nI 104, nI 111, nI 117, nI 115, nI 101]) ++ [nI 32]) ++ dg (e.1 h)) ++ [nI 32]) ++ dg (e.2.1 h)) ++ [nI 32]) ++ [nI 115, nI 97, nI 121, nI 115]) ++ [nI 32]) ++ tx h) ++ [nI 59]) = bs ++ hsP cs tx e h from by unfold hsP; rw [dgs_dg, dgs_dg, if_neg c9]; simp only [List.append_assoc, List.cons_append, List.nil_append]]
      exact w_wall m hM hSt hLf oS oL hx c (h + 1) (bs ++ hsP cs tx e h) (by omega) (by rw [hb]; show _ = _ ++ (hssP cs tx e h ++ hsP cs tx e h); rw [List.append_assoc])

set_option maxHeartbeats 4000000 in
set_option maxRecDepth 100000 in
theorem c_X10_writesAll (m : Nat) {H M : Nat} {un : Bool} {cs : Nat → List Nat} {tx : Nat → List Int32} {e : Lf} {n : Nat} {kd : mK} {I : mI} {J : mJ} {P : mP} (hM : kM kd P m) (hSt : rS I m H M un cs tx) (hLf : rL I m H e) (oS : okS H M cs) (oL : okL H M e) (hx : okX H cs tx) : Ct yX10_writesAll cX10_writesAll 2 none 5 0 0 [.ref m] n kd I J P (am_is none n kd (pgR m (hdP M un ++ hssP cs tx e H) I) J P) := by
  have hM20 := oS.1
  have hdl := dg_le M
  refine ct_of 1 (by decide +kernel) (Nat.le_of_ble_eq_true rfl) rfl ?_
  cases un
  · skip
    refine r_aload_n dX10_writesAll_0 rfl ?_
    refine r_iconst (v := nI 0) dX10_writesAll_1 (by decide) ?_
    refine r_putI dX10_writesAll_2 fl_X10_505 rfl rfl hM.1 ?_
    rw [pgR_nil]
    refine r_aload_n dX10_writesAll_5 rfl ?_
    refine r_iconst (v := nI 5) dX10_writesAll_6 (by decide) ?_
    refine r_virtV (c_rword_5 m [] hM (by (try simp only [List.length_append, List.length_cons, List.length_nil]); omega)) lk_X10_514 mc_X10_writesWord dX10_writesAll_7 hM.1 (by decide) rfl rfl (Nat.le_of_ble_eq_true rfl) ?_
    refine r_aload_n dX10_writesAll_10 rfl ?_
    refine r_bipush (v := nI 32) dX10_writesAll_11 (by decide) ?_
    refine r_virtV (c_rw m ([] ++ [nI 109, nI 111, nI 115, nI 116]) (nI 32) hM (by (try simp only [List.length_append, List.length_cons, List.length_nil]); omega)) lk_X10_508 mc_X10_writes dX10_writesAll_13 hM.1 (by decide) rfl rfl (Nat.le_of_ble_eq_true rfl) ?_
    refine r_aload_n dX10_writesAll_16 rfl ?_
    refine r_aload_n dX10_writesAll_17 rfl ?_
    refine r_getI dX10_writesAll_18 fl_X10_7 rfl hM.1 ?_
    rw [pgR_j (by decide), hSt.1.2.1]
    refine r_virtV (c_rn m M (([] ++ [nI 109, nI 111, nI 115, nI 116]) ++ [nI 32]) hM (by omega) (by (try simp only [List.length_append, List.length_cons, List.length_nil]); omega)) lk_X10_517 mc_X10_writesNumber dX10_writesAll_21 hM.1 (by decide) rfl rfl (Nat.le_of_ble_eq_true rfl) ?_
    refine r_aload_n dX10_writesAll_24 rfl ?_
    refine r_bipush (v := nI 59) dX10_writesAll_25 (by decide) ?_
    refine r_virtV (c_rw m ((([] ++ [nI 109, nI 111, nI 115, nI 116]) ++ [nI 32]) ++ dg M) (nI 59) hM (by (try simp only [List.length_append, List.length_cons, List.length_nil]); omega)) lk_X10_508 mc_X10_writes dX10_writesAll_27 hM.1 (by decide) rfl rfl (Nat.le_of_ble_eq_true rfl) ?_
    refine r_aload_n dX10_writesAll_30 rfl ?_
    refine r_getI dX10_writesAll_31 fl_X10_353 rfl hM.1 ?_
    rw [pgR_j (by decide), hSt.1.2.2]
    refine r_if_eq (tgt := 49) dX10_writesAll_34 (by decide) (fun _ => ?_) (fun hz => absurd (show _ from rfl) hz)
    refine r_iconst (v := nI 0) dX10_writesAll_49 (by decide) ?_
    refine r_istore_n dX10_writesAll_50 (by decide) ?_
    exact w_wall m hM hSt hLf oS oL hx H 0 _ (by omega) (by unfold hdP; rw [dgs_dg]; show _ = _ ++ []; simp)
  · skip
    refine r_aload_n dX10_writesAll_0 rfl ?_
    refine r_iconst (v := nI 0) dX10_writesAll_1 (by decide) ?_
    refine r_putI dX10_writesAll_2 fl_X10_505 rfl rfl hM.1 ?_
    rw [pgR_nil]
    refine r_aload_n dX10_writesAll_5 rfl ?_
    refine r_iconst (v := nI 5) dX10_writesAll_6 (by decide) ?_
    refine r_virtV (c_rword_5 m [] hM (by (try simp only [List.length_append, List.length_cons, List.length_nil]); omega)) lk_X10_514 mc_X10_writesWord dX10_writesAll_7 hM.1 (by decide) rfl rfl (Nat.le_of_ble_eq_true rfl) ?_
    refine r_aload_n dX10_writesAll_10 rfl ?_
    refine r_bipush (v := nI 32) dX10_writesAll_11 (by decide) ?_
    refine r_virtV (c_rw m ([] ++ [nI 109, nI 111, nI 115, nI 116]) (nI 32) hM (by (try simp only [List.length_append, List.length_cons, List.length_nil]); omega)) lk_X10_508 mc_X10_writes dX10_writesAll_13 hM.1 (by decide) rfl rfl (Nat.le_of_ble_eq_true rfl) ?_
    refine r_aload_n dX10_writesAll_16 rfl ?_
    refine r_aload_n dX10_writesAll_17 rfl ?_
    refine r_getI dX10_writesAll_18 fl_X10_7 rfl hM.1 ?_
    rw [pgR_j (by decide), hSt.1.2.1]
    refine r_virtV (c_rn m M (([] ++ [nI 109, nI 111, nI 115, nI 116]) ++ [nI 32]) hM (by omega) (by (try simp only [List.length_append, List.length_cons, List.length_nil]); omega)) lk_X10_517 mc_X10_writesNumber dX10_writesAll_21 hM.1 (by decide) rfl rfl (Nat.le_of_ble_eq_true rfl) ?_
    refine r_aload_n dX10_writesAll_24 rfl ?_
    refine r_bipush (v := nI 59) dX10_writesAll_25 (by decide) ?_
    refine r_virtV (c_rw m ((([] ++ [nI 109, nI 111, nI 115, nI 116]) ++ [nI 32]) ++ dg M) (nI 59) hM (by (try simp only [List.length_append, List.length_cons, List.length_nil]); omega)) lk_X10_508 mc_X10_writes dX10_writesAll_27 hM.1 (by decide) rfl rfl (Nat.le_of_ble_eq_true rfl) ?_
    refine r_aload_n dX10_writesAll_30 rfl ?_
    refine r_getI dX10_writesAll_31 fl_X10_353 rfl hM.1 ?_
    rw [pgR_j (by decide), hSt.1.2.2]
    refine r_if_eq (tgt := 49) dX10_writesAll_34 (by decide) (fun hz => absurd hz (show ¬ _ from (by decide))) (fun _ => ?_)
    refine r_aload_n dX10_writesAll_37 rfl ?_
    refine r_bipush (v := nI 7) dX10_writesAll_38 (by decide) ?_
    refine r_virtV (c_rword_7 m (((([] ++ [nI 109, nI 111, nI 115, nI 116]) ++ [nI 32]) ++ dg M) ++ [nI 59]) hM (by (try simp only [List.length_append, List.length_cons, List.length_nil]); omega)) lk_X10_514 mc_X10_writesWord dX10_writesAll_40 hM.1 (by decide) rfl rfl (Nat.le_of_ble_eq_true rfl) ?_
    refine r_aload_n dX10_writesAll_43 rfl ?_
    refine r_bipush (v := nI 59) dX10_writesAll_44 (by decide) ?_
    refine r_virtV (c_rw m ((((([] ++ [nI 109, nI 111, nI 115, nI 116]) ++ [nI 32]) ++ dg M) ++ [nI 59]) ++ [nI 117, nI 110, nI 108, nI 105, nI 107, nI 101]) (nI 59) hM (by (try simp only [List.length_append, List.length_cons, List.length_nil]); omega)) lk_X10_508 mc_X10_writes dX10_writesAll_46 hM.1 (by decide) rfl rfl (Nat.le_of_ble_eq_true rfl) ?_
    refine r_iconst (v := nI 0) dX10_writesAll_49 (by decide) ?_
    refine r_istore_n dX10_writesAll_50 (by decide) ?_
    exact w_wall m hM hSt hLf oS oL hx H 0 _ (by omega) (by unfold hdP; rw [dgs_dg]; show _ = _ ++ []; simp)

theorem dX10_written_0 : decode cX10_written 0 = .ok (.aload_n 0, 1) := by decide +kernel
theorem dX10_written_1 : decode cX10_written 1 = .ok (.iconst 0, 1) := by decide +kernel
theorem dX10_written_2 : decode cX10_written 2 = .ok (.putfield 193, 3) := by decide +kernel
theorem dX10_written_5 : decode cX10_written 5 = .ok (.aload_n 0, 1) := by decide +kernel
theorem dX10_written_6 : decode cX10_written 6 = .ok (.invokevirtual 523, 3) := by decide +kernel
theorem dX10_written_9 : decode cX10_written 9 = .ok (.aload_n 0, 1) := by decide +kernel
theorem dX10_written_10 : decode cX10_written 10 = .ok (.iload_n 1, 1) := by decide +kernel
theorem dX10_written_11 : decode cX10_written 11 = .ok (.iconst (-1), 1) := by decide +kernel
theorem dX10_written_12 : decode cX10_written 12 = .ok (.if_icmp .lt 15, 3) := by decide +kernel
theorem dX10_written_15 : decode cX10_written 15 = .ok (.iload_n 1, 1) := by decide +kernel
theorem dX10_written_16 : decode cX10_written 16 = .ok (.aload_n 0, 1) := by decide +kernel
theorem dX10_written_17 : decode cX10_written 17 = .ok (.getfield 505, 3) := by decide +kernel
theorem dX10_written_20 : decode cX10_written 20 = .ok (.if_icmp .ge 7, 3) := by decide +kernel
theorem dX10_written_23 : decode cX10_written 23 = .ok (.iconst 1, 1) := by decide +kernel
theorem dX10_written_24 : decode cX10_written 24 = .ok (.goto 4, 3) := by decide +kernel
theorem dX10_written_27 : decode cX10_written 27 = .ok (.iconst 0, 1) := by decide +kernel
theorem dX10_written_28 : decode cX10_written 28 = .ok (.iconst 1, 1) := by decide +kernel
theorem dX10_written_29 : decode cX10_written 29 = .ok (.invokevirtual 343, 3) := by decide +kernel
theorem dX10_written_32 : decode cX10_written 32 = .ok (.ifCond .ne 5, 3) := by decide +kernel
theorem dX10_written_35 : decode cX10_written 35 = .ok (.iconst 0, 1) := by decide +kernel
theorem dX10_written_36 : decode cX10_written 36 = .ok (.ireturn, 1) := by decide +kernel
theorem dX10_written_37 : decode cX10_written 37 = .ok (.iload_n 1, 1) := by decide +kernel
theorem dX10_written_38 : decode cX10_written 38 = .ok (.iconst (-1), 1) := by decide +kernel
theorem dX10_written_39 : decode cX10_written 39 = .ok (.if_icmp .ne 10, 3) := by decide +kernel
theorem dX10_written_42 : decode cX10_written 42 = .ok (.aload_n 0, 1) := by decide +kernel
theorem dX10_written_43 : decode cX10_written 43 = .ok (.getfield 505, 3) := by decide +kernel
theorem dX10_written_46 : decode cX10_written 46 = .ok (.goto 9, 3) := by decide +kernel
theorem dX10_written_49 : decode cX10_written 49 = .ok (.aload_n 0, 1) := by decide +kernel
theorem dX10_written_50 : decode cX10_written 50 = .ok (.getfield 145, 3) := by decide +kernel
theorem dX10_written_53 : decode cX10_written 53 = .ok (.iload_n 1, 1) := by decide +kernel
theorem dX10_written_54 : decode cX10_written 54 = .ok (.iaload, 1) := by decide +kernel
theorem dX10_written_55 : decode cX10_written 55 = .ok (.ireturn, 1) := by decide +kernel

set_option maxHeartbeats 4000000 in
set_option maxRecDepth 100000 in
theorem q_written_no (m : Nat) (x : Int32) {t : Nat} {T : Nat → Nat} {fp : Int32} {rr : Nat → Int32} {H M : Nat} {un : Bool} {cs : Nat → List Nat} {tx : Nat → List Int32} {e : Lf} {im : Option Lf} {wk : Option (List Nat)} {n : Nat} {kd : mK} {I : mI} {J : mJ} {P : mP} (hC : RR m kd I P t T fp rr H M un cs tx e im wk) (hz : okZ t T H M cs e) (hx : okX H cs tx) (hn : x < -1 ∨ ¬ x < nI (pgO H M un cs tx e).length) : Ct yX10_written cX10_written 2 (some .int) 10 0 0 [.ref m, .int x] n kd I J P (pQ m n kd I J P (some (.int (nI 0))) 1 (RX m t T fp rr H M un cs tx e im wk)) := by
  refine ct_of 0 (by decide +kernel) (Nat.le_of_ble_eq_true rfl) rfl ?_
  refine r_aload_n dX10_written_0 rfl ?_
  refine r_iconst (v := nI 0) dX10_written_1 (by decide) ?_
  refine r_putI dX10_written_2 fl_X10_193 rfl rfl (kM_0 hC.1) ?_
  refine q_th hC (fun I hC h0 => ?_)
  have hC0 := hC
  have hz0 := hz
  obtain ⟨hM, hT, hSt, hLf, hIm, hWk⟩ := hC
  obtain ⟨okt, oks, okl⟩ := hz
  have hH8 : H ≤ 8 := oks.2.1
  have hM20 : 2 ≤ M ∧ M ≤ 20 := oks.1
  have hH : I m 1 = nI H := hSt.1.1
  have hMo : I m 2 = nI M := hSt.1.2.1
  have hpl := pg_len (M := M) (un := un) (e := e) hx
  by_cases c : x < -1
  · skip
    refine r_aload_n dX10_written_5 rfl ?_
    refine r_virtV (c_X10_writesAll (e := e) m hM hSt hLf oks okl hx) lk_X10_523 mc_X10_writesAll dX10_written_6 hM.1 (by decide) rfl rfl (Nat.le_of_ble_eq_true rfl) ?_
    have hp77 : pgR m (pgO H M un cs tx e) I m 77 = nI (pgO H M un cs tx e).length := pgR_77
    have hp40 : pgR m (pgO H M un cs tx e) I (m + 40) = fun j => (pgO H M un cs tx e).getD j (I (m + 40) j) := pgR_40
    have hC1 : RR m kd (pgR m (pgO H M un cs tx e) I) P t T fp rr H M un cs tx e im wk := RR.qu (I := I) (fun a a1 a2 a3 a4 => pgR_n (by omega) (by omega)) (fun j hj => pgR_j (by omega)) hC0
    have h01 : pgR m (pgO H M un cs tx e) I m 0 = 0 := by rw [pgR_j (by decide)]; exact h0
    have hB1 : ∀ a, (a < m ∨ m + 55 < a) → pgR m (pgO H M un cs tx e) I a = I a := fun a ha => pgR_n (by omega) (by omega)
    rw [show hdP M un ++ hssP cs tx e H = pgO H M un cs tx e from rfl]
    generalize pgR m (pgO H M un cs tx e) I = I1 at hp77 hp40 hC1 h01 hB1 ⊢
    refine r_aload_n dX10_written_9 rfl ?_
    refine r_iload_n dX10_written_10 rfl ?_
    refine r_iconst (v := (-1)) dX10_written_11 (by decide) ?_
    refine r_icmp_lt (tgt := 27) dX10_written_12 (by decide) (fun _ => ?_) (fun hz => absurd (show _ from c) hz)
    refine r_iconst (v := nI 0) dX10_written_27 (by decide) ?_
    refine r_iconst (v := nI 1) dX10_written_28 (by decide) ?_
    refine r_virtE (c_X10_right m false (nI 1) hM h01 (by decide)) lk_X10_343 mc_X10_right dX10_written_29 (kM_0 hM) (by decide) rfl rfl (Nat.le_of_ble_eq_true rfl) ?_
    refine r_if_ne (tgt := 37) dX10_written_32 (by decide) (fun hz => absurd (show _ from rfl) hz) (fun _ => ?_)
    refine r_iconst (v := nI 0) dX10_written_35 (by decide) ?_
    refine r_iret rfl dX10_written_36 ?_
    exact ⟨rfl, rfl, rfl, rfl, fun a ha => ⟨by rw [show thM false I1 m (nI 1) = va_up I1 m (va_up (I1 m) 0 (nI 1)) from rfl, am_up_n _ _ (by omega)]; exact hB1 a ha, rfl⟩, by rw [show thM false I1 m (nI 1) = va_up I1 m (va_up (I1 m) 0 (nI 1)) from rfl, am_up_s, am_up_s], RR.th hC1⟩
  · skip
    refine r_aload_n dX10_written_5 rfl ?_
    refine r_virtV (c_X10_writesAll (e := e) m hM hSt hLf oks okl hx) lk_X10_523 mc_X10_writesAll dX10_written_6 hM.1 (by decide) rfl rfl (Nat.le_of_ble_eq_true rfl) ?_
    have hp77 : pgR m (pgO H M un cs tx e) I m 77 = nI (pgO H M un cs tx e).length := pgR_77
    have hp40 : pgR m (pgO H M un cs tx e) I (m + 40) = fun j => (pgO H M un cs tx e).getD j (I (m + 40) j) := pgR_40
    have hC1 : RR m kd (pgR m (pgO H M un cs tx e) I) P t T fp rr H M un cs tx e im wk := RR.qu (I := I) (fun a a1 a2 a3 a4 => pgR_n (by omega) (by omega)) (fun j hj => pgR_j (by omega)) hC0
    have h01 : pgR m (pgO H M un cs tx e) I m 0 = 0 := by rw [pgR_j (by decide)]; exact h0
    have hB1 : ∀ a, (a < m ∨ m + 55 < a) → pgR m (pgO H M un cs tx e) I a = I a := fun a ha => pgR_n (by omega) (by omega)
    rw [show hdP M un ++ hssP cs tx e H = pgO H M un cs tx e from rfl]
    generalize pgR m (pgO H M un cs tx e) I = I1 at hp77 hp40 hC1 h01 hB1 ⊢
    refine r_aload_n dX10_written_9 rfl ?_
    refine r_iload_n dX10_written_10 rfl ?_
    refine r_iconst (v := (-1)) dX10_written_11 (by decide) ?_
    refine r_icmp_lt (tgt := 27) dX10_written_12 (by decide) (fun hz => absurd hz (show ¬ _ from c)) (fun _ => ?_)
    refine r_iload_n dX10_written_15 rfl ?_
    refine r_aload_n dX10_written_16 rfl ?_
    refine r_getI dX10_written_17 fl_X10_505 rfl hM.1 ?_
    rw [hp77]
    refine r_icmp_ge (tgt := 27) dX10_written_20 (by decide) (fun _ => ?_) (fun hz => absurd (show _ from (Int32.not_lt.mp (hn.resolve_left c))) hz)
    refine r_iconst (v := nI 0) dX10_written_27 (by decide) ?_
    refine r_iconst (v := nI 1) dX10_written_28 (by decide) ?_
    refine r_virtE (c_X10_right m false (nI 1) hM h01 (by decide)) lk_X10_343 mc_X10_right dX10_written_29 (kM_0 hM) (by decide) rfl rfl (Nat.le_of_ble_eq_true rfl) ?_
    refine r_if_ne (tgt := 37) dX10_written_32 (by decide) (fun hz => absurd (show _ from rfl) hz) (fun _ => ?_)
    refine r_iconst (v := nI 0) dX10_written_35 (by decide) ?_
    refine r_iret rfl dX10_written_36 ?_
    exact ⟨rfl, rfl, rfl, rfl, fun a ha => ⟨by rw [show thM false I1 m (nI 1) = va_up I1 m (va_up (I1 m) 0 (nI 1)) from rfl, am_up_n _ _ (by omega)]; exact hB1 a ha, rfl⟩, by rw [show thM false I1 m (nI 1) = va_up I1 m (va_up (I1 m) 0 (nI 1)) from rfl, am_up_s, am_up_s], RR.th hC1⟩

set_option maxHeartbeats 4000000 in
set_option maxRecDepth 100000 in
theorem q_written_len (m : Nat) {t : Nat} {T : Nat → Nat} {fp : Int32} {rr : Nat → Int32} {H M : Nat} {un : Bool} {cs : Nat → List Nat} {tx : Nat → List Int32} {e : Lf} {im : Option Lf} {wk : Option (List Nat)} {n : Nat} {kd : mK} {I : mI} {J : mJ} {P : mP} (hC : RR m kd I P t T fp rr H M un cs tx e im wk) (hz : okZ t T H M cs e) (hx : okX H cs tx) : Ct yX10_written cX10_written 2 (some .int) 10 0 0 [.ref m, .int (-1)] n kd I J P (pQ m n kd I J P (some (.int (nI (pgO H M un cs tx e).length))) 0 (RX m t T fp rr H M un cs tx e im wk)) := by
  refine ct_of 0 (by decide +kernel) (Nat.le_of_ble_eq_true rfl) rfl ?_
  refine r_aload_n dX10_written_0 rfl ?_
  refine r_iconst (v := nI 0) dX10_written_1 (by decide) ?_
  refine r_putI dX10_written_2 fl_X10_193 rfl rfl (kM_0 hC.1) ?_
  refine q_th hC (fun I hC h0 => ?_)
  have hC0 := hC
  have hz0 := hz
  obtain ⟨hM, hT, hSt, hLf, hIm, hWk⟩ := hC
  obtain ⟨okt, oks, okl⟩ := hz
  have hH8 : H ≤ 8 := oks.2.1
  have hM20 : 2 ≤ M ∧ M ≤ 20 := oks.1
  have hH : I m 1 = nI H := hSt.1.1
  have hMo : I m 2 = nI M := hSt.1.2.1
  have hpl := pg_len (M := M) (un := un) (e := e) hx
  refine r_aload_n dX10_written_5 rfl ?_
  refine r_virtV (c_X10_writesAll (e := e) m hM hSt hLf oks okl hx) lk_X10_523 mc_X10_writesAll dX10_written_6 hM.1 (by decide) rfl rfl (Nat.le_of_ble_eq_true rfl) ?_
  have hp77 : pgR m (pgO H M un cs tx e) I m 77 = nI (pgO H M un cs tx e).length := pgR_77
  have hp40 : pgR m (pgO H M un cs tx e) I (m + 40) = fun j => (pgO H M un cs tx e).getD j (I (m + 40) j) := pgR_40
  have hC1 : RR m kd (pgR m (pgO H M un cs tx e) I) P t T fp rr H M un cs tx e im wk := RR.qu (I := I) (fun a a1 a2 a3 a4 => pgR_n (by omega) (by omega)) (fun j hj => pgR_j (by omega)) hC0
  have h01 : pgR m (pgO H M un cs tx e) I m 0 = 0 := by rw [pgR_j (by decide)]; exact h0
  have hB1 : ∀ a, (a < m ∨ m + 55 < a) → pgR m (pgO H M un cs tx e) I a = I a := fun a ha => pgR_n (by omega) (by omega)
  rw [show hdP M un ++ hssP cs tx e H = pgO H M un cs tx e from rfl]
  generalize pgR m (pgO H M un cs tx e) I = I1 at hp77 hp40 hC1 h01 hB1 ⊢
  refine r_aload_n dX10_written_9 rfl ?_
  refine r_iload_n dX10_written_10 rfl ?_
  refine r_iconst (v := (-1)) dX10_written_11 (by decide) ?_
  refine r_icmp_lt (tgt := 27) dX10_written_12 (by decide) (fun hz => absurd hz (show ¬ _ from (by decide))) (fun _ => ?_)
  refine r_iload_n dX10_written_15 rfl ?_
  refine r_aload_n dX10_written_16 rfl ?_
  refine r_getI dX10_written_17 fl_X10_505 rfl hM.1 ?_
  rw [hp77]
  refine r_icmp_ge (tgt := 27) dX10_written_20 (by decide) (fun hz => absurd hz (show ¬ _ from (Int32.not_le.mpr (m1_lt (by omega))))) (fun _ => ?_)
  refine r_iconst (v := nI 1) dX10_written_23 (by decide) ?_
  refine r_goto (tgt := 28) dX10_written_24 (by decide) ?_
  refine r_iconst (v := nI 1) dX10_written_28 (by decide) ?_
  refine r_virtE (c_X10_right m true (nI 1) hM h01 (by decide)) lk_X10_343 mc_X10_right dX10_written_29 (kM_0 hM) (by decide) rfl rfl (Nat.le_of_ble_eq_true rfl) ?_
  rw [thM_ok]
  refine r_if_ne (tgt := 37) dX10_written_32 (by decide) (fun _ => ?_) (fun hz => absurd hz (show ¬ _ from (by decide)))
  refine r_iload_n dX10_written_37 rfl ?_
  refine r_iconst (v := (-1)) dX10_written_38 (by decide) ?_
  refine r_icmp_ne (tgt := 49) dX10_written_39 (by decide) (fun hz => absurd (show _ from rfl) hz) (fun _ => ?_)
  refine r_aload_n dX10_written_42 rfl ?_
  refine r_getI dX10_written_43 fl_X10_505 rfl hM.1 ?_
  rw [hp77]
  refine r_goto (tgt := 55) dX10_written_46 (by decide) ?_
  refine r_iret rfl dX10_written_55 ?_
  exact ⟨rfl, rfl, rfl, rfl, fun a ha => ⟨hB1 a ha, rfl⟩, h01, hC1⟩

set_option maxHeartbeats 4000000 in
set_option maxRecDepth 100000 in
theorem q_written (m : Nat) (i : Nat) {t : Nat} {T : Nat → Nat} {fp : Int32} {rr : Nat → Int32} {H M : Nat} {un : Bool} {cs : Nat → List Nat} {tx : Nat → List Int32} {e : Lf} {im : Option Lf} {wk : Option (List Nat)} {n : Nat} {kd : mK} {I : mI} {J : mJ} {P : mP} (hC : RR m kd I P t T fp rr H M un cs tx e im wk) (hz : okZ t T H M cs e) (hx : okX H cs tx) (hi : i < (pgO H M un cs tx e).length) : Ct yX10_written cX10_written 2 (some .int) 10 0 0 [.ref m, .int (nI i)] n kd I J P (pQ m n kd I J P (some (.int ((pgO H M un cs tx e).getD i 0))) 0 (RX m t T fp rr H M un cs tx e im wk)) := by
  refine ct_of 0 (by decide +kernel) (Nat.le_of_ble_eq_true rfl) rfl ?_
  refine r_aload_n dX10_written_0 rfl ?_
  refine r_iconst (v := nI 0) dX10_written_1 (by decide) ?_
  refine r_putI dX10_written_2 fl_X10_193 rfl rfl (kM_0 hC.1) ?_
  refine q_th hC (fun I hC h0 => ?_)
  have hC0 := hC
  have hz0 := hz
  obtain ⟨hM, hT, hSt, hLf, hIm, hWk⟩ := hC
  obtain ⟨okt, oks, okl⟩ := hz
  have hH8 : H ≤ 8 := oks.2.1
  have hM20 : 2 ≤ M ∧ M ≤ 20 := oks.1
  have hH : I m 1 = nI H := hSt.1.1
  have hMo : I m 2 = nI M := hSt.1.2.1
  have hpl := pg_len (M := M) (un := un) (e := e) hx
  refine r_aload_n dX10_written_5 rfl ?_
  refine r_virtV (c_X10_writesAll (e := e) m hM hSt hLf oks okl hx) lk_X10_523 mc_X10_writesAll dX10_written_6 hM.1 (by decide) rfl rfl (Nat.le_of_ble_eq_true rfl) ?_
  have hp77 : pgR m (pgO H M un cs tx e) I m 77 = nI (pgO H M un cs tx e).length := pgR_77
  have hp40 : pgR m (pgO H M un cs tx e) I (m + 40) = fun j => (pgO H M un cs tx e).getD j (I (m + 40) j) := pgR_40
  have hC1 : RR m kd (pgR m (pgO H M un cs tx e) I) P t T fp rr H M un cs tx e im wk := RR.qu (I := I) (fun a a1 a2 a3 a4 => pgR_n (by omega) (by omega)) (fun j hj => pgR_j (by omega)) hC0
  have h01 : pgR m (pgO H M un cs tx e) I m 0 = 0 := by rw [pgR_j (by decide)]; exact h0
  have hB1 : ∀ a, (a < m ∨ m + 55 < a) → pgR m (pgO H M un cs tx e) I a = I a := fun a ha => pgR_n (by omega) (by omega)
  rw [show hdP M un ++ hssP cs tx e H = pgO H M un cs tx e from rfl]
  generalize pgR m (pgO H M un cs tx e) I = I1 at hp77 hp40 hC1 h01 hB1 ⊢
  refine r_aload_n dX10_written_9 rfl ?_
  refine r_iload_n dX10_written_10 rfl ?_
  refine r_iconst (v := (-1)) dX10_written_11 (by decide) ?_
  refine r_icmp_lt (tgt := 27) dX10_written_12 (by decide) (fun hz => absurd hz (show ¬ _ from (fun q => absurd (Int32.lt_trans q (m1_lt (k := 0) (by decide))) (z_nlt (by omega))))) (fun _ => ?_)
  refine r_iload_n dX10_written_15 rfl ?_
  refine r_aload_n dX10_written_16 rfl ?_
  refine r_getI dX10_written_17 fl_X10_505 rfl hM.1 ?_
  rw [hp77]
  refine r_icmp_ge (tgt := 27) dX10_written_20 (by decide) (fun hz => absurd hz (show ¬ _ from (by rw [nI_leI (by omega) (by omega)]; omega))) (fun _ => ?_)
  refine r_iconst (v := nI 1) dX10_written_23 (by decide) ?_
  refine r_goto (tgt := 28) dX10_written_24 (by decide) ?_
  refine r_iconst (v := nI 1) dX10_written_28 (by decide) ?_
  refine r_virtE (c_X10_right m true (nI 1) hM h01 (by decide)) lk_X10_343 mc_X10_right dX10_written_29 (kM_0 hM) (by decide) rfl rfl (Nat.le_of_ble_eq_true rfl) ?_
  rw [thM_ok]
  refine r_if_ne (tgt := 37) dX10_written_32 (by decide) (fun _ => ?_) (fun hz => absurd hz (show ¬ _ from (by decide)))
  refine r_iload_n dX10_written_37 rfl ?_
  refine r_iconst (v := (-1)) dX10_written_38 (by decide) ?_
  refine r_icmp_ne (tgt := 49) dX10_written_39 (by decide) (fun _ => ?_) (fun hz => absurd hz (show ¬ _ from (nI_m1 (by omega))))
  refine r_aload_n dX10_written_49 rfl ?_
  refine r_getR dX10_written_50 fl_X10_145 rfl (kM_0 hM) (pM_76 hM) ?_
  refine r_iload_n dX10_written_53 rfl ?_
  refine r_iald dX10_written_54 (aM_76 hM) (nI_in8 1100 (by omega) (by decide)) (nI_clamp (by omega)) ?_
  rw [hp40]
  rw [show (fun j => (pgO H M un cs tx e).getD j (I (m + 40) j)) i = (pgO H M un cs tx e).getD i 0 from by show (pgO H M un cs tx e).getD i _ = _; rw [List.getD_eq_getElem?_getD, List.getD_eq_getElem?_getD, List.getElem?_eq_getElem hi]; rfl]
  refine r_iret rfl dX10_written_55 ?_
  exact ⟨rfl, rfl, rfl, rfl, fun a ha => ⟨hB1 a ha, rfl⟩, h01, hC1⟩

theorem pgI_nl (p : Nat) (I : mI) : va_up I p (va_up (I p) 1 (nI 0)) = pgI p [] I := by
  funext a
  by_cases h : a = p
  · subst h
    rw [am_up_s]
    funext j
    unfold pgI
    rw [if_pos rfl]
    by_cases h1 : j = 1
    · rw [if_pos h1, h1, am_up_s]; rfl
    · rw [if_neg h1, am_up_n _ _ h1]
  · rw [am_up_n _ _ h]
    unfold pgI
    rw [if_neg h]
    split
    · rename_i q; rw [q]; rfl
    · rfl
theorem hd_B (M : Nat) (un : Bool) : hdB M (bz un) = hdP M un := by
  unfold hdB hdP
  rw [dgs_dg]
  cases un
  · show sB.getD 13 [] ++ dg M ++ sB.getD 15 [] = [nI 109, nI 111, nI 115, nI 116, nI 32] ++ dg M ++ [nI 59] ++ []
    rw [List.append_nil]; rfl
  · show sB.getD 13 [] ++ dg M ++ sB.getD 14 [] = [nI 109, nI 111, nI 115, nI 116, nI 32] ++ dg M ++ [nI 59] ++ [nI 117, nI 110, nI 108, nI 105, nI 107, nI 101, nI 59]
    rw [List.append_assoc _ [nI 59]]; rfl
theorem dX4_writeStreet_0 : decode cX4_writeStreet 0 = .ok (.aload_n 0, 1) := by decide +kernel
theorem dX4_writeStreet_1 : decode cX4_writeStreet 1 = .ok (.iconst 0, 1) := by decide +kernel
theorem dX4_writeStreet_2 : decode cX4_writeStreet 2 = .ok (.putfield 13, 3) := by decide +kernel
theorem dX4_writeStreet_5 : decode cX4_writeStreet 5 = .ok (.aload_n 0, 1) := by decide +kernel
theorem dX4_writeStreet_6 : decode cX4_writeStreet 6 = .ok (.aload_n 1, 1) := by decide +kernel
theorem dX4_writeStreet_7 : decode cX4_writeStreet 7 = .ok (.invokevirtual 52, 3) := by decide +kernel
theorem dX4_writeStreet_10 : decode cX4_writeStreet 10 = .ok (.iconst 0, 1) := by decide +kernel
theorem dX4_writeStreet_11 : decode cX4_writeStreet 11 = .ok (.istore_n 3, 1) := by decide +kernel
theorem dX4_writeStreet_12 : decode cX4_writeStreet 12 = .ok (.iload_n 3, 1) := by decide +kernel
theorem dX4_writeStreet_13 : decode cX4_writeStreet 13 = .ok (.aload_n 1, 1) := by decide +kernel
theorem dX4_writeStreet_14 : decode cX4_writeStreet 14 = .ok (.getfield 56, 3) := by decide +kernel
theorem dX4_writeStreet_17 : decode cX4_writeStreet 17 = .ok (.if_icmp .ge 97, 3) := by decide +kernel
theorem dX4_writeStreet_20 : decode cX4_writeStreet 20 = .ok (.aload_n 0, 1) := by decide +kernel
theorem dX4_writeStreet_21 : decode cX4_writeStreet 21 = .ok (.ldc 59, 2) := by decide +kernel
theorem dX4_writeStreet_23 : decode cX4_writeStreet 23 = .ok (.invokevirtual 32, 3) := by decide +kernel
theorem dX4_writeStreet_26 : decode cX4_writeStreet 26 = .ok (.aload_n 0, 1) := by decide +kernel
theorem dX4_writeStreet_27 : decode cX4_writeStreet 27 = .ok (.aload_n 2, 1) := by decide +kernel
theorem dX4_writeStreet_28 : decode cX4_writeStreet 28 = .ok (.getfield 61, 3) := by decide +kernel
theorem dX4_writeStreet_31 : decode cX4_writeStreet 31 = .ok (.iload_n 3, 1) := by decide +kernel
theorem dX4_writeStreet_32 : decode cX4_writeStreet 32 = .ok (.iaload, 1) := by decide +kernel
theorem dX4_writeStreet_33 : decode cX4_writeStreet 33 = .ok (.invokevirtual 41, 3) := by decide +kernel
theorem dX4_writeStreet_36 : decode cX4_writeStreet 36 = .ok (.aload_n 0, 1) := by decide +kernel
theorem dX4_writeStreet_37 : decode cX4_writeStreet 37 = .ok (.bipush 32, 2) := by decide +kernel
theorem dX4_writeStreet_39 : decode cX4_writeStreet 39 = .ok (.invokevirtual 26, 3) := by decide +kernel
theorem dX4_writeStreet_42 : decode cX4_writeStreet 42 = .ok (.aload_n 0, 1) := by decide +kernel
theorem dX4_writeStreet_43 : decode cX4_writeStreet 43 = .ok (.aload_n 2, 1) := by decide +kernel
theorem dX4_writeStreet_44 : decode cX4_writeStreet 44 = .ok (.getfield 67, 3) := by decide +kernel
theorem dX4_writeStreet_47 : decode cX4_writeStreet 47 = .ok (.iload_n 3, 1) := by decide +kernel
theorem dX4_writeStreet_48 : decode cX4_writeStreet 48 = .ok (.iaload, 1) := by decide +kernel
theorem dX4_writeStreet_49 : decode cX4_writeStreet 49 = .ok (.invokevirtual 41, 3) := by decide +kernel
theorem dX4_writeStreet_52 : decode cX4_writeStreet 52 = .ok (.aload_n 1, 1) := by decide +kernel
theorem dX4_writeStreet_53 : decode cX4_writeStreet 53 = .ok (.iload_n 3, 1) := by decide +kernel
theorem dX4_writeStreet_54 : decode cX4_writeStreet 54 = .ok (.invokevirtual 70, 3) := by decide +kernel
theorem dX4_writeStreet_57 : decode cX4_writeStreet 57 = .ok (.ifCond .eq 45, 3) := by decide +kernel
theorem dX4_writeStreet_60 : decode cX4_writeStreet 60 = .ok (.aload_n 0, 1) := by decide +kernel
theorem dX4_writeStreet_61 : decode cX4_writeStreet 61 = .ok (.ldc 74, 2) := by decide +kernel
theorem dX4_writeStreet_63 : decode cX4_writeStreet 63 = .ok (.invokevirtual 32, 3) := by decide +kernel
theorem dX4_writeStreet_66 : decode cX4_writeStreet 66 = .ok (.aload_n 1, 1) := by decide +kernel
theorem dX4_writeStreet_67 : decode cX4_writeStreet 67 = .ok (.getfield 76, 3) := by decide +kernel
theorem dX4_writeStreet_70 : decode cX4_writeStreet 70 = .ok (.iload_n 3, 1) := by decide +kernel
theorem dX4_writeStreet_71 : decode cX4_writeStreet 71 = .ok (.iaload, 1) := by decide +kernel
theorem dX4_writeStreet_72 : decode cX4_writeStreet 72 = .ok (.istore 4, 2) := by decide +kernel
theorem dX4_writeStreet_74 : decode cX4_writeStreet 74 = .ok (.iload 4, 2) := by decide +kernel
theorem dX4_writeStreet_76 : decode cX4_writeStreet 76 = .ok (.aload_n 1, 1) := by decide +kernel
theorem dX4_writeStreet_77 : decode cX4_writeStreet 77 = .ok (.getfield 79, 3) := by decide +kernel
theorem dX4_writeStreet_80 : decode cX4_writeStreet 80 = .ok (.iload_n 3, 1) := by decide +kernel
theorem dX4_writeStreet_81 : decode cX4_writeStreet 81 = .ok (.iaload, 1) := by decide +kernel
theorem dX4_writeStreet_82 : decode cX4_writeStreet 82 = .ok (.if_icmp .ge 20, 3) := by decide +kernel
theorem dX4_writeStreet_85 : decode cX4_writeStreet 85 = .ok (.aload_n 0, 1) := by decide +kernel
theorem dX4_writeStreet_86 : decode cX4_writeStreet 86 = .ok (.aload_n 1, 1) := by decide +kernel
theorem dX4_writeStreet_87 : decode cX4_writeStreet 87 = .ok (.getfield 82, 3) := by decide +kernel
theorem dX4_writeStreet_90 : decode cX4_writeStreet 90 = .ok (.iload 4, 2) := by decide +kernel
theorem dX4_writeStreet_92 : decode cX4_writeStreet 92 = .ok (.baload, 1) := by decide +kernel
theorem dX4_writeStreet_93 : decode cX4_writeStreet 93 = .ok (.invokevirtual 26, 3) := by decide +kernel
theorem dX4_writeStreet_96 : decode cX4_writeStreet 96 = .ok (.iinc 4 1, 3) := by decide +kernel
theorem dX4_writeStreet_99 : decode cX4_writeStreet 99 = .ok (.goto (-25), 3) := by decide +kernel
theorem dX4_writeStreet_102 : decode cX4_writeStreet 102 = .ok (.aload_n 0, 1) := by decide +kernel
theorem dX4_writeStreet_103 : decode cX4_writeStreet 103 = .ok (.bipush 59, 2) := by decide +kernel
theorem dX4_writeStreet_105 : decode cX4_writeStreet 105 = .ok (.invokevirtual 26, 3) := by decide +kernel
theorem dX4_writeStreet_108 : decode cX4_writeStreet 108 = .ok (.iinc 3 1, 3) := by decide +kernel
theorem dX4_writeStreet_111 : decode cX4_writeStreet 111 = .ok (.goto (-99), 3) := by decide +kernel
theorem dX4_writeStreet_114 : decode cX4_writeStreet 114 = .ok (.return_, 1) := by decide +kernel

set_option maxHeartbeats 4000000 in
set_option maxRecDepth 100000 in
theorem w_txt (p b f h a : Nat) (ts bs : List Int32) {n : Nat} {kd : mK} {I : mI} {J : mJ} {P : mP} {post : am_Post} (hP : kPg kd P p) (hS : kS kd P b) (hbp : b + 9 < p) (hh : h < 8) (ha2 : I (b + 7) h = nI (a + ts.length)) (ha3 : a + ts.length ≤ 1000) (ha4 : ∀ j, j < ts.length → I (b + 5) (a + j) = ts.getD j 0) (hby : ∀ c ∈ ts, c.toInt8.toInt32 = c) (hbs : bs.length + ts.length ≤ 1200) (hE : Ru yX4_writeStreet.cls cX4_writeStreet 5 none yX4_writeStreet.name 8 (post) 0 0 102 [some (.ref p), some (.ref b), some (.ref f), some (.int (nI h)), some (.int (nI (a + ts.length)))] [] n kd (pgI p (bs ++ ts) I) J P) : ∀ (c j : Nat), j + c = ts.length → Ru yX4_writeStreet.cls cX4_writeStreet 5 none yX4_writeStreet.name 8 (post) 0 0 74 [some (.ref p), some (.ref b), some (.ref f), some (.int (nI h)), some (.int (nI (a + j)))] [] n kd (pgI p (bs ++ ts.take j) I) J P
  | 0, j, hc => by
    rw [show j = ts.length by omega, List.take_length]
    refine r_iload dX4_writeStreet_74 rfl ?_
    refine r_aload_n dX4_writeStreet_76 rfl ?_
    refine r_getR dX4_writeStreet_77 fl_X4_79 rfl hS.1 hS.2.2.2.2.2.2.2.2.2.2.2.2.2.2.2.2.1 ?_
    refine r_iload_n dX4_writeStreet_80 rfl ?_
    refine r_iald dX4_writeStreet_81 hS.2.2.2.2.2.2.2.1 (nI_in8 8 (by omega) (by decide)) (nI_clamp (by omega)) ?_
    rw [pgI_ne _ _ (show b + 7 ≠ p by omega) (show b + 7 ≠ p + 1 by omega), ha2]
    refine r_icmp_ge (tgt := 102) dX4_writeStreet_82 (by decide) (fun _ => ?_) (fun hz => absurd (show _ from (by rw [nI_leI (by omega) (by omega)]; omega)) hz)
    exact hE
  | c + 1, j, hc => by
    refine r_iload dX4_writeStreet_74 rfl ?_
    refine r_aload_n dX4_writeStreet_76 rfl ?_
    refine r_getR dX4_writeStreet_77 fl_X4_79 rfl hS.1 hS.2.2.2.2.2.2.2.2.2.2.2.2.2.2.2.2.1 ?_
    refine r_iload_n dX4_writeStreet_80 rfl ?_
    refine r_iald dX4_writeStreet_81 hS.2.2.2.2.2.2.2.1 (nI_in8 8 (by omega) (by decide)) (nI_clamp (by omega)) ?_
    rw [pgI_ne _ _ (show b + 7 ≠ p by omega) (show b + 7 ≠ p + 1 by omega), ha2]
    refine r_icmp_ge (tgt := 102) dX4_writeStreet_82 (by decide) (fun hz => absurd hz (show ¬ _ from (by rw [nI_leI (by omega) (by omega)]; omega))) (fun _ => ?_)
    refine r_aload_n dX4_writeStreet_85 rfl ?_
    refine r_aload_n dX4_writeStreet_86 rfl ?_
    refine r_getR dX4_writeStreet_87 fl_X4_82 rfl hS.1 hS.2.2.2.2.2.2.2.2.2.2.2.2.2.2.1 ?_
    refine r_iload dX4_writeStreet_90 rfl ?_
    refine r_bald dX4_writeStreet_92 hS.2.2.2.2.2.1 (nI_in8 1000 (by omega) (by decide)) (nI_clamp (by omega)) ?_
    rw [pgI_ne _ _ (show b + 5 ≠ p by omega) (show b + 5 ≠ p + 1 by omega), ha4 j (by omega)]
    refine r_virtV (c_X4_put p (ts.getD j 0) (ts.getD j 0) (bs ++ ts.take j) hP (hby _ (getD_in (by omega))) (by rw [List.length_append, List.length_take]; omega)) lk_X4_26 mc_X4_put dX4_writeStreet_93 hP.1 (by decide) rfl rfl (Nat.le_of_ble_eq_true rfl) ?_
    rw [show bs ++ ts.take j ++ [ts.getD j 0] = bs ++ ts.take (j + 1) from by rw [List.append_assoc, List.take_succ, List.getD_eq_getElem?_getD, List.getElem?_eq_getElem (show j < ts.length by omega)]; rfl]
    refine r_iinc (v := nI (a + (j + 1))) dX4_writeStreet_96 rfl (nI_inc (a + j)) ?_
    refine r_goto (tgt := 74) dX4_writeStreet_99 (by decide) ?_
    exact w_txt p b f h a ts bs hP hS hbp hh ha2 ha3 ha4 hby hbs hE c (j + 1) (by omega)

set_option maxHeartbeats 4000000 in
set_option maxRecDepth 100000 in
theorem w_wst (p b f : Nat) {H M : Nat} {un : Bool} {cs : Nat → List Nat} {tx : Nat → List Int32} {e : Lf} {n : Nat} {kd : mK} {I : mI} {J : mJ} {P : mP} (hP : kPg kd P p) (hS : kS kd P b) (hL : kL kd P f) (hbp : b + 9 < p) (hfp : f + 5 < p) (hSt : cS I b H M un cs tx) (hLf : cL I f H e) (oS : okS H M cs) (oL : okL H M e) (hx : okX H cs tx) : ∀ (c h : Nat) (bs : List Int32) (z4 : Option Value), h + c = H → bs = hdP M un ++ hssP cs tx e h → Ru yX4_writeStreet.cls cX4_writeStreet 5 none yX4_writeStreet.name 8 (am_is none n kd (pgI p (hdP M un ++ hssP cs tx e H) I) J P) 0 0 12 [some (.ref p), some (.ref b), some (.ref f), some (.int (nI h)), z4] [] n kd (pgI p bs I) J P
  | 0, h, bs, z4, hc, hb => by
    have hH8 := oS.2.1
    rw [show h = H by omega] at hb ⊢
    rw [← hb]
    refine r_iload_n dX4_writeStreet_12 rfl ?_
    refine r_aload_n dX4_writeStreet_13 rfl ?_
    refine r_getI dX4_writeStreet_14 fl_X4_56 rfl hS.1 ?_
    rw [pgI_ne _ _ (show b ≠ p by omega) (show b ≠ p + 1 by omega), hSt.1.1]
    refine r_icmp_ge (tgt := 114) dX4_writeStreet_17 (by decide) (fun _ => ?_) (fun hz => absurd (show _ from (by rw [nI_leI (by omega) (by omega)]; omega)) hz)
    refine r_vret rfl dX4_writeStreet_114 ?_
    exact am_is.mk
  | c + 1, h, bs, z4, hc, hb => by
    have hH8 := oS.2.1
    have hh : h < H := by omega
    have hl1 := hdP_len M un
    have hl2 := hss_len cs tx e h
    have hl3 := hx.1
    have hl4 : txS cs tx (h + 1) ≤ txS cs tx H := by have := txS_mono cs tx (h + 1) c; rwa [show h + 1 + c = H by omega] at this
    have hl5 : txS cs tx (h + 1) = txS cs tx h + (12 + if cs h = [] then 0 else 6 + (tx h).length) := rfl
    have hl6 : bs.length ≤ 15 + txS cs tx h := by rw [hb, List.length_append]; omega
    have hd1 := dg_le (e.1 h)
    have hd2 := dg_le (e.2.1 h)
    have hs9 := oL.1 h hh
    have e16 : sB.getD 16 [] = [nI 104, nI 111, nI 117, nI 115, nI 101, nI 32] := rfl
    have e17 : sB.getD 17 [] = [nI 32, nI 115, nI 97, nI 121, nI 115, nI 32] := rfl
    have l16 : (sB.getD 16 []).length = 6 := rfl
    have l17 : (sB.getD 17 []).length = 6 := rfl
    by_cases c9 : cs h = []
    · have c8 := c9
      rw [if_pos c9] at hl5
      refine r_iload_n dX4_writeStreet_12 rfl ?_
      refine r_aload_n dX4_writeStreet_13 rfl ?_
      refine r_getI dX4_writeStreet_14 fl_X4_56 rfl hS.1 ?_
      rw [pgI_ne _ _ (show b ≠ p by omega) (show b ≠ p + 1 by omega), hSt.1.1]
      refine r_icmp_ge (tgt := 114) dX4_writeStreet_17 (by decide) (fun hz => absurd hz (show ¬ _ from (by rw [nI_leI (by omega) (by omega)]; omega))) (fun _ => ?_)
      refine r_aload_n dX4_writeStreet_20 rfl ?_
      refine r_ldcS (i := 16) dX4_writeStreet_21 sr_X4_59 (by decide) ?_
      refine r_virtV (c_X4_putWord p 16 bs hP (by decide) (by rw [show sN 16 = 6 from rfl]; (try simp only [List.length_append, List.length_cons, List.length_nil]); omega)) lk_X4_32 mc_X4_putWord dX4_writeStreet_23 hP.1 (by decide) rfl rfl (Nat.le_of_ble_eq_true rfl) ?_
      refine r_aload_n dX4_writeStreet_26 rfl ?_
      refine r_aload_n dX4_writeStreet_27 rfl ?_
      refine r_getR dX4_writeStreet_28 fl_X4_61 rfl hL.1 hL.2.2.2.2.2.2.1 ?_
      refine r_iload_n dX4_writeStreet_31 rfl ?_
      refine r_iald dX4_writeStreet_32 hL.2.1 (nI_in8 8 (by omega) (by decide)) (nI_clamp (by omega)) ?_
      rw [pgI_ne _ _ (show f + 1 ≠ p by omega) (show f + 1 ≠ p + 1 by omega), (hLf.1 h hh).1]
      refine r_virtV (c_X4_putNumber p (e.1 h) (bs ++ sB.getD 16 []) hP (by omega) (by (try simp only [List.length_append, List.length_cons, List.length_nil]); omega)) lk_X4_41 mc_X4_putNumber dX4_writeStreet_33 hP.1 (by decide) rfl rfl (Nat.le_of_ble_eq_true rfl) ?_
      refine r_aload_n dX4_writeStreet_36 rfl ?_
      refine r_bipush (v := nI 32) dX4_writeStreet_37 (by decide) ?_
      refine r_virtV (c_X4_put p (nI 32) (nI 32) ((bs ++ sB.getD 16 []) ++ dg (e.1 h)) hP (by decide) (by (try simp only [List.length_append, List.length_cons, List.length_nil]); omega)) lk_X4_26 mc_X4_put dX4_writeStreet_39 hP.1 (by decide) rfl rfl (Nat.le_of_ble_eq_true rfl) ?_
      refine r_aload_n dX4_writeStreet_42 rfl ?_
      refine r_aload_n dX4_writeStreet_43 rfl ?_
      refine r_getR dX4_writeStreet_44 fl_X4_67 rfl hL.1 hL.2.2.2.2.2.2.2.1 ?_
      refine r_iload_n dX4_writeStreet_47 rfl ?_
      refine r_iald dX4_writeStreet_48 hL.2.2.1 (nI_in8 8 (by omega) (by decide)) (nI_clamp (by omega)) ?_
      rw [pgI_ne _ _ (show f + 2 ≠ p by omega) (show f + 2 ≠ p + 1 by omega), (hLf.1 h hh).2]
      refine r_virtV (c_X4_putNumber p (e.2.1 h) (((bs ++ sB.getD 16 []) ++ dg (e.1 h)) ++ [nI 32]) hP (by omega) (by (try simp only [List.length_append, List.length_cons, List.length_nil]); omega)) lk_X4_41 mc_X4_putNumber dX4_writeStreet_49 hP.1 (by decide) rfl rfl (Nat.le_of_ble_eq_true rfl) ?_
      refine r_aload_n dX4_writeStreet_52 rfl ?_
      refine r_iload_n dX4_writeStreet_53 rfl ?_
      refine r_virtE (c_X7_hasRiddle b (nI h) hS) lk_X4_70 mc_X7_hasRiddle dX4_writeStreet_54 hS.1 (by decide) rfl rfl (Nat.le_of_ble_eq_true rfl) ?_
      rw [pgI_ne _ _ (show b ≠ p by omega) (show b ≠ p + 1 by omega), hasR_c hH8 hh hSt, show bz (!(cs h).isEmpty) = nI 0 from by rw [c9]; rfl]
      refine r_if_eq (tgt := 102) dX4_writeStreet_57 (by decide) (fun _ => ?_) (fun hz => absurd (show _ from rfl) hz)
      refine r_aload_n dX4_writeStreet_102 rfl ?_
      refine r_bipush (v := nI 59) dX4_writeStreet_103 (by decide) ?_
      refine r_virtV (c_X4_put p (nI 59) (nI 59) ((((bs ++ sB.getD 16 []) ++ dg (e.1 h)) ++ [nI 32]) ++ dg (e.2.1 h)) hP (by decide) (by (try simp only [List.length_append, List.length_cons, List.length_nil]); omega)) lk_X4_26 mc_X4_put dX4_writeStreet_105 hP.1 (by decide) rfl rfl (Nat.le_of_ble_eq_true rfl) ?_
      refine r_iinc (v := nI (h + 1)) dX4_writeStreet_108 rfl (nI_inc h) ?_
      refine r_goto (tgt := 12) dX4_writeStreet_111 (by decide) ?_
      rw [show (((((bs ++ sB.getD 16 []) ++ dg (e.1 h)) ++ [nI 32]) ++ dg (e.2.1 h)) ++ [nI 59]) = bs ++ hsP cs tx e h from by unfold hsP; rw [dgs_dg, dgs_dg, if_pos c9, e16]; simp only [List.append_assoc, List.cons_append, List.nil_append]]
      exact w_wst p b f hP hS hL hbp hfp hSt hLf oS oL hx c (h + 1) (bs ++ hsP cs tx e h) _ (by omega) (by rw [hb]; show _ = _ ++ (hssP cs tx e h ++ hsP cs tx e h); rw [List.append_assoc])
    · rw [if_neg c9] at hl5
      obtain ⟨a, ha1, ha2, ha3, ha4⟩ := hSt.2.2.2.2 h hh
      refine r_iload_n dX4_writeStreet_12 rfl ?_
      refine r_aload_n dX4_writeStreet_13 rfl ?_
      refine r_getI dX4_writeStreet_14 fl_X4_56 rfl hS.1 ?_
      rw [pgI_ne _ _ (show b ≠ p by omega) (show b ≠ p + 1 by omega), hSt.1.1]
      refine r_icmp_ge (tgt := 114) dX4_writeStreet_17 (by decide) (fun hz => absurd hz (show ¬ _ from (by rw [nI_leI (by omega) (by omega)]; omega))) (fun _ => ?_)
      refine r_aload_n dX4_writeStreet_20 rfl ?_
      refine r_ldcS (i := 16) dX4_writeStreet_21 sr_X4_59 (by decide) ?_
      refine r_virtV (c_X4_putWord p 16 bs hP (by decide) (by rw [show sN 16 = 6 from rfl]; (try simp only [List.length_append, List.length_cons, List.length_nil]); omega)) lk_X4_32 mc_X4_putWord dX4_writeStreet_23 hP.1 (by decide) rfl rfl (Nat.le_of_ble_eq_true rfl) ?_
      refine r_aload_n dX4_writeStreet_26 rfl ?_
      refine r_aload_n dX4_writeStreet_27 rfl ?_
      refine r_getR dX4_writeStreet_28 fl_X4_61 rfl hL.1 hL.2.2.2.2.2.2.1 ?_
      refine r_iload_n dX4_writeStreet_31 rfl ?_
      refine r_iald dX4_writeStreet_32 hL.2.1 (nI_in8 8 (by omega) (by decide)) (nI_clamp (by omega)) ?_
      rw [pgI_ne _ _ (show f + 1 ≠ p by omega) (show f + 1 ≠ p + 1 by omega), (hLf.1 h hh).1]
      refine r_virtV (c_X4_putNumber p (e.1 h) (bs ++ sB.getD 16 []) hP (by omega) (by (try simp only [List.length_append, List.length_cons, List.length_nil]); omega)) lk_X4_41 mc_X4_putNumber dX4_writeStreet_33 hP.1 (by decide) rfl rfl (Nat.le_of_ble_eq_true rfl) ?_
      refine r_aload_n dX4_writeStreet_36 rfl ?_
      refine r_bipush (v := nI 32) dX4_writeStreet_37 (by decide) ?_
      refine r_virtV (c_X4_put p (nI 32) (nI 32) ((bs ++ sB.getD 16 []) ++ dg (e.1 h)) hP (by decide) (by (try simp only [List.length_append, List.length_cons, List.length_nil]); omega)) lk_X4_26 mc_X4_put dX4_writeStreet_39 hP.1 (by decide) rfl rfl (Nat.le_of_ble_eq_true rfl) ?_
      refine r_aload_n dX4_writeStreet_42 rfl ?_
      refine r_aload_n dX4_writeStreet_43 rfl ?_
      refine r_getR dX4_writeStreet_44 fl_X4_67 rfl hL.1 hL.2.2.2.2.2.2.2.1 ?_
      refine r_iload_n dX4_writeStreet_47 rfl ?_
      refine r_iald dX4_writeStreet_48 hL.2.2.1 (nI_in8 8 (by omega) (by decide)) (nI_clamp (by omega)) ?_
      rw [pgI_ne _ _ (show f + 2 ≠ p by omega) (show f + 2 ≠ p + 1 by omega), (hLf.1 h hh).2]
      refine r_virtV (c_X4_putNumber p (e.2.1 h) (((bs ++ sB.getD 16 []) ++ dg (e.1 h)) ++ [nI 32]) hP (by omega) (by (try simp only [List.length_append, List.length_cons, List.length_nil]); omega)) lk_X4_41 mc_X4_putNumber dX4_writeStreet_49 hP.1 (by decide) rfl rfl (Nat.le_of_ble_eq_true rfl) ?_
      refine r_aload_n dX4_writeStreet_52 rfl ?_
      refine r_iload_n dX4_writeStreet_53 rfl ?_
      refine r_virtE (c_X7_hasRiddle b (nI h) hS) lk_X4_70 mc_X7_hasRiddle dX4_writeStreet_54 hS.1 (by decide) rfl rfl (Nat.le_of_ble_eq_true rfl) ?_
      rw [pgI_ne _ _ (show b ≠ p by omega) (show b ≠ p + 1 by omega), hasR_c hH8 hh hSt, show bz (!(cs h).isEmpty) = nI 1 from by cases hq : cs h; exact absurd hq c9; rfl]
      refine r_if_eq (tgt := 102) dX4_writeStreet_57 (by decide) (fun hz => absurd hz (show ¬ _ from (by decide))) (fun _ => ?_)
      refine r_aload_n dX4_writeStreet_60 rfl ?_
      refine r_ldcS (i := 17) dX4_writeStreet_61 sr_X4_74 (by decide) ?_
      refine r_virtV (c_X4_putWord p 17 ((((bs ++ sB.getD 16 []) ++ dg (e.1 h)) ++ [nI 32]) ++ dg (e.2.1 h)) hP (by decide) (by rw [show sN 17 = 6 from rfl]; (try simp only [List.length_append, List.length_cons, List.length_nil]); omega)) lk_X4_32 mc_X4_putWord dX4_writeStreet_63 hP.1 (by decide) rfl rfl (Nat.le_of_ble_eq_true rfl) ?_
      refine r_aload_n dX4_writeStreet_66 rfl ?_
      refine r_getR dX4_writeStreet_67 fl_X4_76 rfl hS.1 hS.2.2.2.2.2.2.2.2.2.2.2.2.2.2.2.1 ?_
      refine r_iload_n dX4_writeStreet_70 rfl ?_
      refine r_iald dX4_writeStreet_71 hS.2.2.2.2.2.2.1 (nI_in8 8 (by omega) (by decide)) (nI_clamp (by omega)) ?_
      rw [pgI_ne _ _ (show b + 6 ≠ p by omega) (show b + 6 ≠ p + 1 by omega), ha1]
      refine r_istore dX4_writeStreet_72 (by decide) ?_
      suffices hE9 : Ru yX4_writeStreet.cls cX4_writeStreet 5 none yX4_writeStreet.name 8 (am_is none n kd (pgI p (hdP M un ++ hssP cs tx e H) I) J P) 0 0 102 [some (.ref p), some (.ref b), some (.ref f), some (.int (nI h)), some (.int (nI (a + (tx h).length)))] [] n kd (pgI p ((((((bs ++ sB.getD 16 []) ++ dg (e.1 h)) ++ [nI 32]) ++ dg (e.2.1 h)) ++ sB.getD 17 []) ++ tx h) I) J P by
        have hx9 := w_txt (n := n) (kd := kd) (I := I) (J := J) (P := P) p b f h a (tx h) (((((bs ++ sB.getD 16 []) ++ dg (e.1 h)) ++ [nI 32]) ++ dg (e.2.1 h)) ++ sB.getD 17 []) hP hS hbp (by omega) ha2 ha3 ha4 (hx.2 h hh c9) (by (try simp only [List.length_append, List.length_cons, List.length_nil]); omega) hE9 (tx h).length 0 (by omega)
        rw [List.take_zero, List.append_nil] at hx9
        exact hx9
      refine r_aload_n dX4_writeStreet_102 rfl ?_
      refine r_bipush (v := nI 59) dX4_writeStreet_103 (by decide) ?_
      refine r_virtV (c_X4_put p (nI 59) (nI 59) ((((((bs ++ sB.getD 16 []) ++ dg (e.1 h)) ++ [nI 32]) ++ dg (e.2.1 h)) ++ sB.getD 17 []) ++ tx h) hP (by decide) (by (try simp only [List.length_append, List.length_cons, List.length_nil]); omega)) lk_X4_26 mc_X4_put dX4_writeStreet_105 hP.1 (by decide) rfl rfl (Nat.le_of_ble_eq_true rfl) ?_
      refine r_iinc (v := nI (h + 1)) dX4_writeStreet_108 rfl (nI_inc h) ?_
      refine r_goto (tgt := 12) dX4_writeStreet_111 (by decide) ?_
      rw [show (((((((bs ++ sB.getD 16 []) ++ dg (e.1 h)) ++ [nI 32]) ++ dg (e.2.1 h)) ++ sB.getD 17 []) ++ tx h) ++ [nI 59]) = bs ++ hsP cs tx e h from by unfold hsP; rw [dgs_dg, dgs_dg, if_neg c9, e16, e17]; simp only [List.append_assoc, List.cons_append, List.nil_append]]
      exact w_wst p b f hP hS hL hbp hfp hSt hLf oS oL hx c (h + 1) (bs ++ hsP cs tx e h) _ (by omega) (by rw [hb]; show _ = _ ++ (hssP cs tx e h ++ hsP cs tx e h); rw [List.append_assoc])

set_option maxHeartbeats 4000000 in
set_option maxRecDepth 100000 in
theorem c_X4_writeStreet (p b f : Nat) {H M : Nat} {un : Bool} {cs : Nat → List Nat} {tx : Nat → List Int32} {e : Lf} {n : Nat} {kd : mK} {I : mI} {J : mJ} {P : mP} (hP : kPg kd P p) (hS : kS kd P b) (hL : kL kd P f) (hbp : b + 9 < p) (hfp : f + 5 < p) (hSt : cS I b H M un cs tx) (hLf : cL I f H e) (oS : okS H M cs) (oL : okL H M e) (hx : okX H cs tx) : Ct yX4_writeStreet cX4_writeStreet 5 none 8 0 0 [.ref p, .ref b, .ref f] n kd I J P (am_is none n kd (pgI p (hdP M un ++ hssP cs tx e H) I) J P) := by
  have hM20 := oS.1
  refine ct_of 2 (by decide +kernel) (Nat.le_of_ble_eq_true rfl) rfl ?_
  refine r_aload_n dX4_writeStreet_0 rfl ?_
  refine r_iconst (v := nI 0) dX4_writeStreet_1 (by decide) ?_
  refine r_putI dX4_writeStreet_2 fl_X4_13 rfl rfl hP.1 ?_
  rw [pgI_nl]
  refine r_aload_n dX4_writeStreet_5 rfl ?_
  refine r_aload_n dX4_writeStreet_6 rfl ?_
  refine r_virtV (c_X4_writeHead p b M (bz un) [] hP hS.1 (by omega) (by omega) hSt.2.1 (by omega) hSt.2.2.1 (by decide)) lk_X4_52 mc_X4_writeHead dX4_writeStreet_7 hP.1 (by decide) rfl rfl (Nat.le_of_ble_eq_true rfl) ?_
  rw [hd_B, List.nil_append]
  refine r_iconst (v := nI 0) dX4_writeStreet_10 (by decide) ?_
  refine r_istore_n dX4_writeStreet_11 (by decide) ?_
  exact w_wst p b f hP hS hL hbp hfp hSt hLf oS oL hx H 0 _ _ (by omega) (by show _ = _ ++ []; rw [List.append_nil])

theorem dX9_written_0 : decode cX9_written 0 = .ok (.aload_n 0, 1) := by decide +kernel
theorem dX9_written_1 : decode cX9_written 1 = .ok (.getfield 103, 3) := by decide +kernel
theorem dX9_written_4 : decode cX9_written 4 = .ok (.ifCond .ne 23, 3) := by decide +kernel
theorem dX9_written_7 : decode cX9_written 7 = .ok (.aload_n 0, 1) := by decide +kernel
theorem dX9_written_8 : decode cX9_written 8 = .ok (.getfield 99, 3) := by decide +kernel
theorem dX9_written_11 : decode cX9_written 11 = .ok (.aload_n 0, 1) := by decide +kernel
theorem dX9_written_12 : decode cX9_written 12 = .ok (.getfield 27, 3) := by decide +kernel
theorem dX9_written_15 : decode cX9_written 15 = .ok (.aload_n 0, 1) := by decide +kernel
theorem dX9_written_16 : decode cX9_written 16 = .ok (.getfield 37, 3) := by decide +kernel
theorem dX9_written_19 : decode cX9_written 19 = .ok (.invokevirtual 343, 3) := by decide +kernel
theorem dX9_written_22 : decode cX9_written 22 = .ok (.aload_n 0, 1) := by decide +kernel
theorem dX9_written_23 : decode cX9_written 23 = .ok (.iconst 1, 1) := by decide +kernel
theorem dX9_written_24 : decode cX9_written 24 = .ok (.putfield 103, 3) := by decide +kernel
theorem dX9_written_27 : decode cX9_written 27 = .ok (.iload_n 1, 1) := by decide +kernel
theorem dX9_written_28 : decode cX9_written 28 = .ok (.iconst (-1), 1) := by decide +kernel
theorem dX9_written_29 : decode cX9_written 29 = .ok (.if_icmp .lt 14, 3) := by decide +kernel
theorem dX9_written_32 : decode cX9_written 32 = .ok (.iload_n 1, 1) := by decide +kernel
theorem dX9_written_33 : decode cX9_written 33 = .ok (.aload_n 0, 1) := by decide +kernel
theorem dX9_written_34 : decode cX9_written 34 = .ok (.getfield 99, 3) := by decide +kernel
theorem dX9_written_37 : decode cX9_written 37 = .ok (.getfield 347, 3) := by decide +kernel
theorem dX9_written_40 : decode cX9_written 40 = .ok (.if_icmp .lt 11, 3) := by decide +kernel
theorem dX9_written_43 : decode cX9_written 43 = .ok (.new 139, 3) := by decide +kernel
theorem dX9_written_46 : decode cX9_written 46 = .ok (.dup, 1) := by decide +kernel
theorem dX9_written_47 : decode cX9_written 47 = .ok (.invokespecial 141, 3) := by decide +kernel
theorem dX9_written_50 : decode cX9_written 50 = .ok (.athrow, 1) := by decide +kernel
theorem dX9_written_51 : decode cX9_written 51 = .ok (.iload_n 1, 1) := by decide +kernel
theorem dX9_written_52 : decode cX9_written 52 = .ok (.iconst (-1), 1) := by decide +kernel
theorem dX9_written_53 : decode cX9_written 53 = .ok (.if_icmp .ne 13, 3) := by decide +kernel
theorem dX9_written_56 : decode cX9_written 56 = .ok (.aload_n 0, 1) := by decide +kernel
theorem dX9_written_57 : decode cX9_written 57 = .ok (.getfield 99, 3) := by decide +kernel
theorem dX9_written_60 : decode cX9_written 60 = .ok (.getfield 347, 3) := by decide +kernel
theorem dX9_written_63 : decode cX9_written 63 = .ok (.goto 12, 3) := by decide +kernel
theorem dX9_written_66 : decode cX9_written 66 = .ok (.aload_n 0, 1) := by decide +kernel
theorem dX9_written_67 : decode cX9_written 67 = .ok (.getfield 99, 3) := by decide +kernel
theorem dX9_written_70 : decode cX9_written 70 = .ok (.getfield 348, 3) := by decide +kernel
theorem dX9_written_73 : decode cX9_written 73 = .ok (.iload_n 1, 1) := by decide +kernel
theorem dX9_written_74 : decode cX9_written 74 = .ok (.baload, 1) := by decide +kernel
theorem dX9_written_75 : decode cX9_written 75 = .ok (.ireturn, 1) := by decide +kernel

set_option maxHeartbeats 4000000 in
set_option maxRecDepth 100000 in
theorem k_written_no (o b s f l : Nat) (x : Int32) {t : Nat} {T : Nat → Nat} {fp : Int32} {rr : Nat → Int32} {H M : Nat} {un : Bool} {cs : Nat → List Nat} {tx : Nat → List Int32} {e : Lf} {im : Option Lf} {wk : Option (List Nat)} {n : Nat} {kd : mK} {I : mI} {J : mJ} {P : mP} (hC : CR o b s f l n kd I J P t T fp rr H M un cs tx e im wk) (hz : okZ t T H M cs e) (hx : okX H cs tx) (hn : x < -1 ∨ ¬ x < nI (pgO H M un cs tx e).length) : Ct yX9_written cX9_written 2 (some .int) 12 1 6 [.ref o, .int x] n kd I J P (pK o n kd I J P (.inr "java/util/NoSuchElementException") (CX o t T fp rr H M un cs tx e im wk)) := by
  have hC0 := hC
  have hz0 := hz
  obtain ⟨hX, hsc, hT, hSt, hLf, hIm, hWk, hQc, hPc⟩ := hC
  obtain ⟨okt, oks, okl⟩ := hz
  have hS := hX.S
  have hL := hX.L
  have hat := hX.at
  have hH8 : H ≤ 8 := oks.2.1
  have hM20 : 2 ≤ M ∧ M ≤ 20 := oks.1
  have hH : I b 0 = nI H := hSt.1.1
  have hMo : I b 1 = nI M := hSt.2.1
  obtain ⟨⟨x0, x1, x2⟩, -, ⟨-, -, hLk⟩, ⟨hQ, hA, hG, hW, hRd, hD, hPg⟩, ⟨p0, p3, p8, p10, p12, p13, p14, p15, p16, p17⟩, ⟨p4, p5, p6, p7⟩, -, -, -⟩ := id hX
  have hpl := pg_len (M := M) (un := un) (e := e) hx
  refine ct_of 0 (by decide +kernel) (Nat.le_of_ble_eq_true rfl) rfl ?_
  by_cases c : x < -1
  · skip
    by_cases c1 : I o 18 = nI 1
    · skip
      have hC1 := hC0
      have hu1 : ∀ a, o + 69 ≤ a → I a = I a := fun a _ => rfl
      obtain ⟨hq1, hq2⟩ : I (o + 67) 1 = nI (pgO H M un cs tx e).length ∧ ∀ j, j < (pgO H M un cs tx e).length → I (o + 68) j = (pgO H M un cs tx e).getD j 0 := by
        rcases hPc with q | q
        · exact absurd q.symm (by rw [c1]; decide)
        · exact ⟨q.2.1, q.2.2.2⟩
      refine r_aload_n dX9_written_0 rfl ?_
      refine r_getI dX9_written_1 fl_X9_103 rfl x0 ?_
      rw [c1]
      refine r_if_ne (tgt := 27) dX9_written_4 (by decide) (fun _ => ?_) (fun hz => absurd hz (show ¬ _ from (by decide)))
      refine r_iload_n dX9_written_27 rfl ?_
      refine r_iconst (v := (-1)) dX9_written_28 (by decide) ?_
      refine r_icmp_lt (tgt := 43) dX9_written_29 (by decide) (fun _ => ?_) (fun hz => absurd (show _ from c) hz)
      refine r_throw (cls := "java/util/NoSuchElementException") (names := ["java/lang/RuntimeException", "java/lang/Exception"]) dX9_written_43 dX9_written_46 dX9_written_47 dX9_written_50 (by decide +kernel) (by decide +kernel) cl_X9_139 xi_NoSuchElementException xa_nse xb_nse (by decide) (Nat.le_of_ble_eq_true rfl) (by omega) (by omega) ?_
      exact ⟨rfl, ⟨Nat.le_refl _, Nat.le_succ _⟩, fun q => q, fun a a1 a2 => ⟨rfl, hu1 a a1, rfl, rfl⟩, b, s, f, l, hC1⟩
    · have c1 : I o 18 = nI 0 := hPc.resolve_right (fun q => c1 q.1)
      refine r_aload_n dX9_written_0 rfl ?_
      refine r_getI dX9_written_1 fl_X9_103 rfl x0 ?_
      rw [c1]
      refine r_if_ne (tgt := 27) dX9_written_4 (by decide) (fun hz => absurd (show _ from rfl) hz) (fun _ => ?_)
      refine r_aload_n dX9_written_7 rfl ?_
      refine r_getR dX9_written_8 fl_X9_99 rfl x0 p17 ?_
      refine r_aload_n dX9_written_11 rfl ?_
      refine r_getR dX9_written_12 fl_X9_27 rfl (by assumption) (by assumption) ?_
      refine r_aload_n dX9_written_15 rfl ?_
      refine r_getR dX9_written_16 fl_X9_37 rfl (by assumption) (by assumption) ?_
      refine r_virtV (c_X4_writeStreet (o + 67) b f hPg hS hL (by omega) (by omega) hSt hLf oks okl hx) lk_X9_343 mc_X4_writeStreet dX9_written_19 hPg.1 (by decide) rfl rfl (Nat.le_of_ble_eq_true rfl) ?_
      have hp1 : pgI (o + 67) (pgO H M un cs tx e) I (o + 67) 1 = nI (pgO H M un cs tx e).length := pgI_1 _ _ _
      have hp2 : pgI (o + 67) (pgO H M un cs tx e) I (o + 68) = fun j => (pgO H M un cs tx e).getD j (I (o + 67 + 1) j) := pgI_b (o + 67) _ _
      have hpn : ∀ a, a ≠ o + 67 → a ≠ o + 68 → pgI (o + 67) (pgO H M un cs tx e) I a = I a := fun a a1 a2 => pgI_ne _ _ a1 a2
      rw [show hdP M un ++ hssP cs tx e H = pgO H M un cs tx e from rfl]
      generalize pgI (o + 67) (pgO H M un cs tx e) I = I1 at hp1 hp2 hpn ⊢
      refine r_aload_n dX9_written_22 rfl ?_
      refine r_iconst (v := nI 1) dX9_written_23 (by decide) ?_
      refine r_putZ dX9_written_24 fl_X9_103 rfl rfl (by first | exact Or.inl rfl | exact Or.inr rfl) x0 ?_
      have hC1 : CR o b s f l n kd (va_up I1 o (va_up (I1 o) 18 (nI 1))) J P t T fp rr H M un cs tx e im wk := by
        refine ⟨hX, hsc, hT.cg (by rw [am_up_s, am_up_n _ _ (by decide), hpn _ (by omega) (by omega)]) (by rw [am_up_s, am_up_n _ _ (by decide), hpn _ (by omega) (by omega)]) (by rw [am_up_n _ _ (by omega), hpn _ (by omega) (by omega)]) (by rw [am_up_n _ _ (by omega), hpn _ (by omega) (by omega)]), hSt.cg (fun a x y => by rw [am_up_n _ _ (by omega), hpn _ (by omega) (by omega)]), hLf.cg (fun a x y => by rw [am_up_n _ _ (by omega), hpn _ (by omega) (by omega)]), hIm.cg (by rw [am_up_s, am_up_n _ _ (by decide), hpn _ (by omega) (by omega)]) (fun a x y => by rw [am_up_n _ _ (by omega), hpn _ (by omega) (by omega)]), hWk.cg (by rw [am_up_n _ _ (by omega), hpn _ (by omega) (by omega)]) (by rw [am_up_n _ _ (by omega), hpn _ (by omega) (by omega)]), hQc.cg (by rw [am_up_s, am_up_n _ _ (by decide), hpn _ (by omega) (by omega)]) (by rw [am_up_n _ _ (by omega), hpn _ (by omega) (by omega)]) (by rw [am_up_n _ _ (by omega), hpn _ (by omega) (by omega)]) rfl, Or.inr ⟨by rw [am_up_s, am_up_s], by rw [am_up_n _ _ (by omega)]; exact hp1, by omega, fun j hj => ?_⟩⟩
        rw [am_up_n _ _ (by omega), hp2]
        show (pgO H M un cs tx e).getD j _ = _
        rw [List.getD_eq_getElem?_getD, List.getD_eq_getElem?_getD, List.getElem?_eq_getElem hj]
        rfl
      have hu1 : ∀ a, o + 69 ≤ a → (va_up I1 o (va_up (I1 o) 18 (nI 1))) a = I a := fun a a1 => by rw [am_up_n _ _ (by omega), hpn _ (by omega) (by omega)]
      have hi1 : (va_up I1 o (va_up (I1 o) 18 (nI 1))) o 18 = nI 1 := by rw [am_up_s, am_up_s]
      generalize (va_up I1 o (va_up (I1 o) 18 (nI 1))) = I2 at hC1 hu1 hi1 ⊢
      obtain ⟨hq1, hq2⟩ : I2 (o + 67) 1 = nI (pgO H M un cs tx e).length ∧ ∀ j, j < (pgO H M un cs tx e).length → I2 (o + 68) j = (pgO H M un cs tx e).getD j 0 := by
        rcases hC1.2.2.2.2.2.2.2.2 with q | q
        · rw [hi1] at q; exact absurd q (by decide)
        · exact ⟨q.2.1, q.2.2.2⟩
      refine r_iload_n dX9_written_27 rfl ?_
      refine r_iconst (v := (-1)) dX9_written_28 (by decide) ?_
      refine r_icmp_lt (tgt := 43) dX9_written_29 (by decide) (fun _ => ?_) (fun hz => absurd (show _ from c) hz)
      refine r_throw (cls := "java/util/NoSuchElementException") (names := ["java/lang/RuntimeException", "java/lang/Exception"]) dX9_written_43 dX9_written_46 dX9_written_47 dX9_written_50 (by decide +kernel) (by decide +kernel) cl_X9_139 xi_NoSuchElementException xa_nse xb_nse (by decide) (Nat.le_of_ble_eq_true rfl) (by omega) (by omega) ?_
      exact ⟨rfl, ⟨Nat.le_refl _, Nat.le_succ _⟩, fun q => q, fun a a1 a2 => ⟨rfl, hu1 a a1, rfl, rfl⟩, b, s, f, l, hC1⟩
  · skip
    by_cases c1 : I o 18 = nI 1
    · skip
      have hC1 := hC0
      have hu1 : ∀ a, o + 69 ≤ a → I a = I a := fun a _ => rfl
      obtain ⟨hq1, hq2⟩ : I (o + 67) 1 = nI (pgO H M un cs tx e).length ∧ ∀ j, j < (pgO H M un cs tx e).length → I (o + 68) j = (pgO H M un cs tx e).getD j 0 := by
        rcases hPc with q | q
        · exact absurd q.symm (by rw [c1]; decide)
        · exact ⟨q.2.1, q.2.2.2⟩
      refine r_aload_n dX9_written_0 rfl ?_
      refine r_getI dX9_written_1 fl_X9_103 rfl x0 ?_
      rw [c1]
      refine r_if_ne (tgt := 27) dX9_written_4 (by decide) (fun _ => ?_) (fun hz => absurd hz (show ¬ _ from (by decide)))
      refine r_iload_n dX9_written_27 rfl ?_
      refine r_iconst (v := (-1)) dX9_written_28 (by decide) ?_
      refine r_icmp_lt (tgt := 43) dX9_written_29 (by decide) (fun hz => absurd hz (show ¬ _ from c)) (fun _ => ?_)
      refine r_iload_n dX9_written_32 rfl ?_
      refine r_aload_n dX9_written_33 rfl ?_
      refine r_getR dX9_written_34 fl_X9_99 rfl x0 p17 ?_
      refine r_getI dX9_written_37 fl_X9_347 rfl hPg.1 ?_
      rw [hq1]
      refine r_icmp_lt (tgt := 51) dX9_written_40 (by decide) (fun hz => absurd hz (show ¬ _ from (hn.resolve_left c))) (fun _ => ?_)
      refine r_throw (cls := "java/util/NoSuchElementException") (names := ["java/lang/RuntimeException", "java/lang/Exception"]) dX9_written_43 dX9_written_46 dX9_written_47 dX9_written_50 (by decide +kernel) (by decide +kernel) cl_X9_139 xi_NoSuchElementException xa_nse xb_nse (by decide) (Nat.le_of_ble_eq_true rfl) (by omega) (by omega) ?_
      exact ⟨rfl, ⟨Nat.le_refl _, Nat.le_succ _⟩, fun q => q, fun a a1 a2 => ⟨rfl, hu1 a a1, rfl, rfl⟩, b, s, f, l, hC1⟩
    · have c1 : I o 18 = nI 0 := hPc.resolve_right (fun q => c1 q.1)
      refine r_aload_n dX9_written_0 rfl ?_
      refine r_getI dX9_written_1 fl_X9_103 rfl x0 ?_
      rw [c1]
      refine r_if_ne (tgt := 27) dX9_written_4 (by decide) (fun hz => absurd (show _ from rfl) hz) (fun _ => ?_)
      refine r_aload_n dX9_written_7 rfl ?_
      refine r_getR dX9_written_8 fl_X9_99 rfl x0 p17 ?_
      refine r_aload_n dX9_written_11 rfl ?_
      refine r_getR dX9_written_12 fl_X9_27 rfl (by assumption) (by assumption) ?_
      refine r_aload_n dX9_written_15 rfl ?_
      refine r_getR dX9_written_16 fl_X9_37 rfl (by assumption) (by assumption) ?_
      refine r_virtV (c_X4_writeStreet (o + 67) b f hPg hS hL (by omega) (by omega) hSt hLf oks okl hx) lk_X9_343 mc_X4_writeStreet dX9_written_19 hPg.1 (by decide) rfl rfl (Nat.le_of_ble_eq_true rfl) ?_
      have hp1 : pgI (o + 67) (pgO H M un cs tx e) I (o + 67) 1 = nI (pgO H M un cs tx e).length := pgI_1 _ _ _
      have hp2 : pgI (o + 67) (pgO H M un cs tx e) I (o + 68) = fun j => (pgO H M un cs tx e).getD j (I (o + 67 + 1) j) := pgI_b (o + 67) _ _
      have hpn : ∀ a, a ≠ o + 67 → a ≠ o + 68 → pgI (o + 67) (pgO H M un cs tx e) I a = I a := fun a a1 a2 => pgI_ne _ _ a1 a2
      rw [show hdP M un ++ hssP cs tx e H = pgO H M un cs tx e from rfl]
      generalize pgI (o + 67) (pgO H M un cs tx e) I = I1 at hp1 hp2 hpn ⊢
      refine r_aload_n dX9_written_22 rfl ?_
      refine r_iconst (v := nI 1) dX9_written_23 (by decide) ?_
      refine r_putZ dX9_written_24 fl_X9_103 rfl rfl (by first | exact Or.inl rfl | exact Or.inr rfl) x0 ?_
      have hC1 : CR o b s f l n kd (va_up I1 o (va_up (I1 o) 18 (nI 1))) J P t T fp rr H M un cs tx e im wk := by
        refine ⟨hX, hsc, hT.cg (by rw [am_up_s, am_up_n _ _ (by decide), hpn _ (by omega) (by omega)]) (by rw [am_up_s, am_up_n _ _ (by decide), hpn _ (by omega) (by omega)]) (by rw [am_up_n _ _ (by omega), hpn _ (by omega) (by omega)]) (by rw [am_up_n _ _ (by omega), hpn _ (by omega) (by omega)]), hSt.cg (fun a x y => by rw [am_up_n _ _ (by omega), hpn _ (by omega) (by omega)]), hLf.cg (fun a x y => by rw [am_up_n _ _ (by omega), hpn _ (by omega) (by omega)]), hIm.cg (by rw [am_up_s, am_up_n _ _ (by decide), hpn _ (by omega) (by omega)]) (fun a x y => by rw [am_up_n _ _ (by omega), hpn _ (by omega) (by omega)]), hWk.cg (by rw [am_up_n _ _ (by omega), hpn _ (by omega) (by omega)]) (by rw [am_up_n _ _ (by omega), hpn _ (by omega) (by omega)]), hQc.cg (by rw [am_up_s, am_up_n _ _ (by decide), hpn _ (by omega) (by omega)]) (by rw [am_up_n _ _ (by omega), hpn _ (by omega) (by omega)]) (by rw [am_up_n _ _ (by omega), hpn _ (by omega) (by omega)]) rfl, Or.inr ⟨by rw [am_up_s, am_up_s], by rw [am_up_n _ _ (by omega)]; exact hp1, by omega, fun j hj => ?_⟩⟩
        rw [am_up_n _ _ (by omega), hp2]
        show (pgO H M un cs tx e).getD j _ = _
        rw [List.getD_eq_getElem?_getD, List.getD_eq_getElem?_getD, List.getElem?_eq_getElem hj]
        rfl
      have hu1 : ∀ a, o + 69 ≤ a → (va_up I1 o (va_up (I1 o) 18 (nI 1))) a = I a := fun a a1 => by rw [am_up_n _ _ (by omega), hpn _ (by omega) (by omega)]
      have hi1 : (va_up I1 o (va_up (I1 o) 18 (nI 1))) o 18 = nI 1 := by rw [am_up_s, am_up_s]
      generalize (va_up I1 o (va_up (I1 o) 18 (nI 1))) = I2 at hC1 hu1 hi1 ⊢
      obtain ⟨hq1, hq2⟩ : I2 (o + 67) 1 = nI (pgO H M un cs tx e).length ∧ ∀ j, j < (pgO H M un cs tx e).length → I2 (o + 68) j = (pgO H M un cs tx e).getD j 0 := by
        rcases hC1.2.2.2.2.2.2.2.2 with q | q
        · rw [hi1] at q; exact absurd q (by decide)
        · exact ⟨q.2.1, q.2.2.2⟩
      refine r_iload_n dX9_written_27 rfl ?_
      refine r_iconst (v := (-1)) dX9_written_28 (by decide) ?_
      refine r_icmp_lt (tgt := 43) dX9_written_29 (by decide) (fun hz => absurd hz (show ¬ _ from c)) (fun _ => ?_)
      refine r_iload_n dX9_written_32 rfl ?_
      refine r_aload_n dX9_written_33 rfl ?_
      refine r_getR dX9_written_34 fl_X9_99 rfl x0 p17 ?_
      refine r_getI dX9_written_37 fl_X9_347 rfl hPg.1 ?_
      rw [hq1]
      refine r_icmp_lt (tgt := 51) dX9_written_40 (by decide) (fun hz => absurd hz (show ¬ _ from (hn.resolve_left c))) (fun _ => ?_)
      refine r_throw (cls := "java/util/NoSuchElementException") (names := ["java/lang/RuntimeException", "java/lang/Exception"]) dX9_written_43 dX9_written_46 dX9_written_47 dX9_written_50 (by decide +kernel) (by decide +kernel) cl_X9_139 xi_NoSuchElementException xa_nse xb_nse (by decide) (Nat.le_of_ble_eq_true rfl) (by omega) (by omega) ?_
      exact ⟨rfl, ⟨Nat.le_refl _, Nat.le_succ _⟩, fun q => q, fun a a1 a2 => ⟨rfl, hu1 a a1, rfl, rfl⟩, b, s, f, l, hC1⟩

set_option maxHeartbeats 4000000 in
set_option maxRecDepth 100000 in
theorem k_written_len (o b s f l : Nat) {t : Nat} {T : Nat → Nat} {fp : Int32} {rr : Nat → Int32} {H M : Nat} {un : Bool} {cs : Nat → List Nat} {tx : Nat → List Int32} {e : Lf} {im : Option Lf} {wk : Option (List Nat)} {n : Nat} {kd : mK} {I : mI} {J : mJ} {P : mP} (hC : CR o b s f l n kd I J P t T fp rr H M un cs tx e im wk) (hz : okZ t T H M cs e) (hx : okX H cs tx) : Ct yX9_written cX9_written 2 (some .int) 12 1 6 [.ref o, .int (-1)] n kd I J P (pK o n kd I J P (.inl (some (.int (nI (pgO H M un cs tx e).length)))) (CX o t T fp rr H M un cs tx e im wk)) := by
  have hC0 := hC
  have hz0 := hz
  obtain ⟨hX, hsc, hT, hSt, hLf, hIm, hWk, hQc, hPc⟩ := hC
  obtain ⟨okt, oks, okl⟩ := hz
  have hS := hX.S
  have hL := hX.L
  have hat := hX.at
  have hH8 : H ≤ 8 := oks.2.1
  have hM20 : 2 ≤ M ∧ M ≤ 20 := oks.1
  have hH : I b 0 = nI H := hSt.1.1
  have hMo : I b 1 = nI M := hSt.2.1
  obtain ⟨⟨x0, x1, x2⟩, -, ⟨-, -, hLk⟩, ⟨hQ, hA, hG, hW, hRd, hD, hPg⟩, ⟨p0, p3, p8, p10, p12, p13, p14, p15, p16, p17⟩, ⟨p4, p5, p6, p7⟩, -, -, -⟩ := id hX
  have hpl := pg_len (M := M) (un := un) (e := e) hx
  refine ct_of 0 (by decide +kernel) (Nat.le_of_ble_eq_true rfl) rfl ?_
  by_cases c1 : I o 18 = nI 1
  · skip
    have hC1 := hC0
    have hu1 : ∀ a, o + 69 ≤ a → I a = I a := fun a _ => rfl
    obtain ⟨hq1, hq2⟩ : I (o + 67) 1 = nI (pgO H M un cs tx e).length ∧ ∀ j, j < (pgO H M un cs tx e).length → I (o + 68) j = (pgO H M un cs tx e).getD j 0 := by
      rcases hPc with q | q
      · exact absurd q.symm (by rw [c1]; decide)
      · exact ⟨q.2.1, q.2.2.2⟩
    refine r_aload_n dX9_written_0 rfl ?_
    refine r_getI dX9_written_1 fl_X9_103 rfl x0 ?_
    rw [c1]
    refine r_if_ne (tgt := 27) dX9_written_4 (by decide) (fun _ => ?_) (fun hz => absurd hz (show ¬ _ from (by decide)))
    refine r_iload_n dX9_written_27 rfl ?_
    refine r_iconst (v := (-1)) dX9_written_28 (by decide) ?_
    refine r_icmp_lt (tgt := 43) dX9_written_29 (by decide) (fun hz => absurd hz (show ¬ _ from (by decide))) (fun _ => ?_)
    refine r_iload_n dX9_written_32 rfl ?_
    refine r_aload_n dX9_written_33 rfl ?_
    refine r_getR dX9_written_34 fl_X9_99 rfl x0 p17 ?_
    refine r_getI dX9_written_37 fl_X9_347 rfl hPg.1 ?_
    rw [hq1]
    refine r_icmp_lt (tgt := 51) dX9_written_40 (by decide) (fun _ => ?_) (fun hz => absurd (show _ from (m1_lt (by omega))) hz)
    refine r_iload_n dX9_written_51 rfl ?_
    refine r_iconst (v := (-1)) dX9_written_52 (by decide) ?_
    refine r_icmp_ne (tgt := 66) dX9_written_53 (by decide) (fun hz => absurd (show _ from rfl) hz) (fun _ => ?_)
    refine r_aload_n dX9_written_56 rfl ?_
    refine r_getR dX9_written_57 fl_X9_99 rfl x0 p17 ?_
    refine r_getI dX9_written_60 fl_X9_347 rfl hPg.1 ?_
    rw [hq1]
    refine r_goto (tgt := 75) dX9_written_63 (by decide) ?_
    refine r_iret rfl dX9_written_75 ?_
    exact ⟨rfl, ⟨Nat.le_refl _, Nat.le_succ _⟩, fun q => q, fun a a1 a2 => ⟨rfl, hu1 a a1, rfl, rfl⟩, b, s, f, l, hC1⟩
  · have c1 : I o 18 = nI 0 := hPc.resolve_right (fun q => c1 q.1)
    refine r_aload_n dX9_written_0 rfl ?_
    refine r_getI dX9_written_1 fl_X9_103 rfl x0 ?_
    rw [c1]
    refine r_if_ne (tgt := 27) dX9_written_4 (by decide) (fun hz => absurd (show _ from rfl) hz) (fun _ => ?_)
    refine r_aload_n dX9_written_7 rfl ?_
    refine r_getR dX9_written_8 fl_X9_99 rfl x0 p17 ?_
    refine r_aload_n dX9_written_11 rfl ?_
    refine r_getR dX9_written_12 fl_X9_27 rfl (by assumption) (by assumption) ?_
    refine r_aload_n dX9_written_15 rfl ?_
    refine r_getR dX9_written_16 fl_X9_37 rfl (by assumption) (by assumption) ?_
    refine r_virtV (c_X4_writeStreet (o + 67) b f hPg hS hL (by omega) (by omega) hSt hLf oks okl hx) lk_X9_343 mc_X4_writeStreet dX9_written_19 hPg.1 (by decide) rfl rfl (Nat.le_of_ble_eq_true rfl) ?_
    have hp1 : pgI (o + 67) (pgO H M un cs tx e) I (o + 67) 1 = nI (pgO H M un cs tx e).length := pgI_1 _ _ _
    have hp2 : pgI (o + 67) (pgO H M un cs tx e) I (o + 68) = fun j => (pgO H M un cs tx e).getD j (I (o + 67 + 1) j) := pgI_b (o + 67) _ _
    have hpn : ∀ a, a ≠ o + 67 → a ≠ o + 68 → pgI (o + 67) (pgO H M un cs tx e) I a = I a := fun a a1 a2 => pgI_ne _ _ a1 a2
    rw [show hdP M un ++ hssP cs tx e H = pgO H M un cs tx e from rfl]
    generalize pgI (o + 67) (pgO H M un cs tx e) I = I1 at hp1 hp2 hpn ⊢
    refine r_aload_n dX9_written_22 rfl ?_
    refine r_iconst (v := nI 1) dX9_written_23 (by decide) ?_
    refine r_putZ dX9_written_24 fl_X9_103 rfl rfl (by first | exact Or.inl rfl | exact Or.inr rfl) x0 ?_
    have hC1 : CR o b s f l n kd (va_up I1 o (va_up (I1 o) 18 (nI 1))) J P t T fp rr H M un cs tx e im wk := by
      refine ⟨hX, hsc, hT.cg (by rw [am_up_s, am_up_n _ _ (by decide), hpn _ (by omega) (by omega)]) (by rw [am_up_s, am_up_n _ _ (by decide), hpn _ (by omega) (by omega)]) (by rw [am_up_n _ _ (by omega), hpn _ (by omega) (by omega)]) (by rw [am_up_n _ _ (by omega), hpn _ (by omega) (by omega)]), hSt.cg (fun a x y => by rw [am_up_n _ _ (by omega), hpn _ (by omega) (by omega)]), hLf.cg (fun a x y => by rw [am_up_n _ _ (by omega), hpn _ (by omega) (by omega)]), hIm.cg (by rw [am_up_s, am_up_n _ _ (by decide), hpn _ (by omega) (by omega)]) (fun a x y => by rw [am_up_n _ _ (by omega), hpn _ (by omega) (by omega)]), hWk.cg (by rw [am_up_n _ _ (by omega), hpn _ (by omega) (by omega)]) (by rw [am_up_n _ _ (by omega), hpn _ (by omega) (by omega)]), hQc.cg (by rw [am_up_s, am_up_n _ _ (by decide), hpn _ (by omega) (by omega)]) (by rw [am_up_n _ _ (by omega), hpn _ (by omega) (by omega)]) (by rw [am_up_n _ _ (by omega), hpn _ (by omega) (by omega)]) rfl, Or.inr ⟨by rw [am_up_s, am_up_s], by rw [am_up_n _ _ (by omega)]; exact hp1, by omega, fun j hj => ?_⟩⟩
      rw [am_up_n _ _ (by omega), hp2]
      show (pgO H M un cs tx e).getD j _ = _
      rw [List.getD_eq_getElem?_getD, List.getD_eq_getElem?_getD, List.getElem?_eq_getElem hj]
      rfl
    have hu1 : ∀ a, o + 69 ≤ a → (va_up I1 o (va_up (I1 o) 18 (nI 1))) a = I a := fun a a1 => by rw [am_up_n _ _ (by omega), hpn _ (by omega) (by omega)]
    have hi1 : (va_up I1 o (va_up (I1 o) 18 (nI 1))) o 18 = nI 1 := by rw [am_up_s, am_up_s]
    generalize (va_up I1 o (va_up (I1 o) 18 (nI 1))) = I2 at hC1 hu1 hi1 ⊢
    obtain ⟨hq1, hq2⟩ : I2 (o + 67) 1 = nI (pgO H M un cs tx e).length ∧ ∀ j, j < (pgO H M un cs tx e).length → I2 (o + 68) j = (pgO H M un cs tx e).getD j 0 := by
      rcases hC1.2.2.2.2.2.2.2.2 with q | q
      · rw [hi1] at q; exact absurd q (by decide)
      · exact ⟨q.2.1, q.2.2.2⟩
    refine r_iload_n dX9_written_27 rfl ?_
    refine r_iconst (v := (-1)) dX9_written_28 (by decide) ?_
    refine r_icmp_lt (tgt := 43) dX9_written_29 (by decide) (fun hz => absurd hz (show ¬ _ from (by decide))) (fun _ => ?_)
    refine r_iload_n dX9_written_32 rfl ?_
    refine r_aload_n dX9_written_33 rfl ?_
    refine r_getR dX9_written_34 fl_X9_99 rfl x0 p17 ?_
    refine r_getI dX9_written_37 fl_X9_347 rfl hPg.1 ?_
    rw [hq1]
    refine r_icmp_lt (tgt := 51) dX9_written_40 (by decide) (fun _ => ?_) (fun hz => absurd (show _ from (m1_lt (by omega))) hz)
    refine r_iload_n dX9_written_51 rfl ?_
    refine r_iconst (v := (-1)) dX9_written_52 (by decide) ?_
    refine r_icmp_ne (tgt := 66) dX9_written_53 (by decide) (fun hz => absurd (show _ from rfl) hz) (fun _ => ?_)
    refine r_aload_n dX9_written_56 rfl ?_
    refine r_getR dX9_written_57 fl_X9_99 rfl x0 p17 ?_
    refine r_getI dX9_written_60 fl_X9_347 rfl hPg.1 ?_
    rw [hq1]
    refine r_goto (tgt := 75) dX9_written_63 (by decide) ?_
    refine r_iret rfl dX9_written_75 ?_
    exact ⟨rfl, ⟨Nat.le_refl _, Nat.le_succ _⟩, fun q => q, fun a a1 a2 => ⟨rfl, hu1 a a1, rfl, rfl⟩, b, s, f, l, hC1⟩

set_option maxHeartbeats 4000000 in
set_option maxRecDepth 100000 in
theorem k_written (o b s f l : Nat) (i : Nat) {t : Nat} {T : Nat → Nat} {fp : Int32} {rr : Nat → Int32} {H M : Nat} {un : Bool} {cs : Nat → List Nat} {tx : Nat → List Int32} {e : Lf} {im : Option Lf} {wk : Option (List Nat)} {n : Nat} {kd : mK} {I : mI} {J : mJ} {P : mP} (hC : CR o b s f l n kd I J P t T fp rr H M un cs tx e im wk) (hz : okZ t T H M cs e) (hx : okX H cs tx) (hi : i < (pgO H M un cs tx e).length) : Ct yX9_written cX9_written 2 (some .int) 12 1 6 [.ref o, .int (nI i)] n kd I J P (pK o n kd I J P (.inl (some (.int ((pgO H M un cs tx e).getD i 0)))) (CX o t T fp rr H M un cs tx e im wk)) := by
  have hC0 := hC
  have hz0 := hz
  obtain ⟨hX, hsc, hT, hSt, hLf, hIm, hWk, hQc, hPc⟩ := hC
  obtain ⟨okt, oks, okl⟩ := hz
  have hS := hX.S
  have hL := hX.L
  have hat := hX.at
  have hH8 : H ≤ 8 := oks.2.1
  have hM20 : 2 ≤ M ∧ M ≤ 20 := oks.1
  have hH : I b 0 = nI H := hSt.1.1
  have hMo : I b 1 = nI M := hSt.2.1
  obtain ⟨⟨x0, x1, x2⟩, -, ⟨-, -, hLk⟩, ⟨hQ, hA, hG, hW, hRd, hD, hPg⟩, ⟨p0, p3, p8, p10, p12, p13, p14, p15, p16, p17⟩, ⟨p4, p5, p6, p7⟩, -, -, -⟩ := id hX
  have hpl := pg_len (M := M) (un := un) (e := e) hx
  refine ct_of 0 (by decide +kernel) (Nat.le_of_ble_eq_true rfl) rfl ?_
  by_cases c1 : I o 18 = nI 1
  · skip
    have hC1 := hC0
    have hu1 : ∀ a, o + 69 ≤ a → I a = I a := fun a _ => rfl
    obtain ⟨hq1, hq2⟩ : I (o + 67) 1 = nI (pgO H M un cs tx e).length ∧ ∀ j, j < (pgO H M un cs tx e).length → I (o + 68) j = (pgO H M un cs tx e).getD j 0 := by
      rcases hPc with q | q
      · exact absurd q.symm (by rw [c1]; decide)
      · exact ⟨q.2.1, q.2.2.2⟩
    refine r_aload_n dX9_written_0 rfl ?_
    refine r_getI dX9_written_1 fl_X9_103 rfl x0 ?_
    rw [c1]
    refine r_if_ne (tgt := 27) dX9_written_4 (by decide) (fun _ => ?_) (fun hz => absurd hz (show ¬ _ from (by decide)))
    refine r_iload_n dX9_written_27 rfl ?_
    refine r_iconst (v := (-1)) dX9_written_28 (by decide) ?_
    refine r_icmp_lt (tgt := 43) dX9_written_29 (by decide) (fun hz => absurd hz (show ¬ _ from (fun q => absurd (Int32.lt_trans q (m1_lt (k := 0) (by decide))) (z_nlt (by omega))))) (fun _ => ?_)
    refine r_iload_n dX9_written_32 rfl ?_
    refine r_aload_n dX9_written_33 rfl ?_
    refine r_getR dX9_written_34 fl_X9_99 rfl x0 p17 ?_
    refine r_getI dX9_written_37 fl_X9_347 rfl hPg.1 ?_
    rw [hq1]
    refine r_icmp_lt (tgt := 51) dX9_written_40 (by decide) (fun _ => ?_) (fun hz => absurd (show _ from ((nI_ltI (by omega) (by omega)).mpr hi)) hz)
    refine r_iload_n dX9_written_51 rfl ?_
    refine r_iconst (v := (-1)) dX9_written_52 (by decide) ?_
    refine r_icmp_ne (tgt := 66) dX9_written_53 (by decide) (fun _ => ?_) (fun hz => absurd hz (show ¬ _ from (nI_m1 (by omega))))
    refine r_aload_n dX9_written_66 rfl ?_
    refine r_getR dX9_written_67 fl_X9_99 rfl x0 p17 ?_
    refine r_getR dX9_written_70 fl_X9_348 rfl hPg.1 hPg.2.2 ?_
    refine r_iload_n dX9_written_73 rfl ?_
    refine r_bald dX9_written_74 hPg.2.1 (nI_in8 1200 (by omega) (by decide)) (nI_clamp (by omega)) ?_
    rw [show o + 67 + 1 = o + 68 from rfl, hq2 i hi]
    refine r_iret rfl dX9_written_75 ?_
    exact ⟨rfl, ⟨Nat.le_refl _, Nat.le_succ _⟩, fun q => q, fun a a1 a2 => ⟨rfl, hu1 a a1, rfl, rfl⟩, b, s, f, l, hC1⟩
  · have c1 : I o 18 = nI 0 := hPc.resolve_right (fun q => c1 q.1)
    refine r_aload_n dX9_written_0 rfl ?_
    refine r_getI dX9_written_1 fl_X9_103 rfl x0 ?_
    rw [c1]
    refine r_if_ne (tgt := 27) dX9_written_4 (by decide) (fun hz => absurd (show _ from rfl) hz) (fun _ => ?_)
    refine r_aload_n dX9_written_7 rfl ?_
    refine r_getR dX9_written_8 fl_X9_99 rfl x0 p17 ?_
    refine r_aload_n dX9_written_11 rfl ?_
    refine r_getR dX9_written_12 fl_X9_27 rfl (by assumption) (by assumption) ?_
    refine r_aload_n dX9_written_15 rfl ?_
    refine r_getR dX9_written_16 fl_X9_37 rfl (by assumption) (by assumption) ?_
    refine r_virtV (c_X4_writeStreet (o + 67) b f hPg hS hL (by omega) (by omega) hSt hLf oks okl hx) lk_X9_343 mc_X4_writeStreet dX9_written_19 hPg.1 (by decide) rfl rfl (Nat.le_of_ble_eq_true rfl) ?_
    have hp1 : pgI (o + 67) (pgO H M un cs tx e) I (o + 67) 1 = nI (pgO H M un cs tx e).length := pgI_1 _ _ _
    have hp2 : pgI (o + 67) (pgO H M un cs tx e) I (o + 68) = fun j => (pgO H M un cs tx e).getD j (I (o + 67 + 1) j) := pgI_b (o + 67) _ _
    have hpn : ∀ a, a ≠ o + 67 → a ≠ o + 68 → pgI (o + 67) (pgO H M un cs tx e) I a = I a := fun a a1 a2 => pgI_ne _ _ a1 a2
    rw [show hdP M un ++ hssP cs tx e H = pgO H M un cs tx e from rfl]
    generalize pgI (o + 67) (pgO H M un cs tx e) I = I1 at hp1 hp2 hpn ⊢
    refine r_aload_n dX9_written_22 rfl ?_
    refine r_iconst (v := nI 1) dX9_written_23 (by decide) ?_
    refine r_putZ dX9_written_24 fl_X9_103 rfl rfl (by first | exact Or.inl rfl | exact Or.inr rfl) x0 ?_
    have hC1 : CR o b s f l n kd (va_up I1 o (va_up (I1 o) 18 (nI 1))) J P t T fp rr H M un cs tx e im wk := by
      refine ⟨hX, hsc, hT.cg (by rw [am_up_s, am_up_n _ _ (by decide), hpn _ (by omega) (by omega)]) (by rw [am_up_s, am_up_n _ _ (by decide), hpn _ (by omega) (by omega)]) (by rw [am_up_n _ _ (by omega), hpn _ (by omega) (by omega)]) (by rw [am_up_n _ _ (by omega), hpn _ (by omega) (by omega)]), hSt.cg (fun a x y => by rw [am_up_n _ _ (by omega), hpn _ (by omega) (by omega)]), hLf.cg (fun a x y => by rw [am_up_n _ _ (by omega), hpn _ (by omega) (by omega)]), hIm.cg (by rw [am_up_s, am_up_n _ _ (by decide), hpn _ (by omega) (by omega)]) (fun a x y => by rw [am_up_n _ _ (by omega), hpn _ (by omega) (by omega)]), hWk.cg (by rw [am_up_n _ _ (by omega), hpn _ (by omega) (by omega)]) (by rw [am_up_n _ _ (by omega), hpn _ (by omega) (by omega)]), hQc.cg (by rw [am_up_s, am_up_n _ _ (by decide), hpn _ (by omega) (by omega)]) (by rw [am_up_n _ _ (by omega), hpn _ (by omega) (by omega)]) (by rw [am_up_n _ _ (by omega), hpn _ (by omega) (by omega)]) rfl, Or.inr ⟨by rw [am_up_s, am_up_s], by rw [am_up_n _ _ (by omega)]; exact hp1, by omega, fun j hj => ?_⟩⟩
      rw [am_up_n _ _ (by omega), hp2]
      show (pgO H M un cs tx e).getD j _ = _
      rw [List.getD_eq_getElem?_getD, List.getD_eq_getElem?_getD, List.getElem?_eq_getElem hj]
      rfl
    have hu1 : ∀ a, o + 69 ≤ a → (va_up I1 o (va_up (I1 o) 18 (nI 1))) a = I a := fun a a1 => by rw [am_up_n _ _ (by omega), hpn _ (by omega) (by omega)]
    have hi1 : (va_up I1 o (va_up (I1 o) 18 (nI 1))) o 18 = nI 1 := by rw [am_up_s, am_up_s]
    generalize (va_up I1 o (va_up (I1 o) 18 (nI 1))) = I2 at hC1 hu1 hi1 ⊢
    obtain ⟨hq1, hq2⟩ : I2 (o + 67) 1 = nI (pgO H M un cs tx e).length ∧ ∀ j, j < (pgO H M un cs tx e).length → I2 (o + 68) j = (pgO H M un cs tx e).getD j 0 := by
      rcases hC1.2.2.2.2.2.2.2.2 with q | q
      · rw [hi1] at q; exact absurd q (by decide)
      · exact ⟨q.2.1, q.2.2.2⟩
    refine r_iload_n dX9_written_27 rfl ?_
    refine r_iconst (v := (-1)) dX9_written_28 (by decide) ?_
    refine r_icmp_lt (tgt := 43) dX9_written_29 (by decide) (fun hz => absurd hz (show ¬ _ from (fun q => absurd (Int32.lt_trans q (m1_lt (k := 0) (by decide))) (z_nlt (by omega))))) (fun _ => ?_)
    refine r_iload_n dX9_written_32 rfl ?_
    refine r_aload_n dX9_written_33 rfl ?_
    refine r_getR dX9_written_34 fl_X9_99 rfl x0 p17 ?_
    refine r_getI dX9_written_37 fl_X9_347 rfl hPg.1 ?_
    rw [hq1]
    refine r_icmp_lt (tgt := 51) dX9_written_40 (by decide) (fun _ => ?_) (fun hz => absurd (show _ from ((nI_ltI (by omega) (by omega)).mpr hi)) hz)
    refine r_iload_n dX9_written_51 rfl ?_
    refine r_iconst (v := (-1)) dX9_written_52 (by decide) ?_
    refine r_icmp_ne (tgt := 66) dX9_written_53 (by decide) (fun _ => ?_) (fun hz => absurd hz (show ¬ _ from (nI_m1 (by omega))))
    refine r_aload_n dX9_written_66 rfl ?_
    refine r_getR dX9_written_67 fl_X9_99 rfl x0 p17 ?_
    refine r_getR dX9_written_70 fl_X9_348 rfl hPg.1 hPg.2.2 ?_
    refine r_iload_n dX9_written_73 rfl ?_
    refine r_bald dX9_written_74 hPg.2.1 (nI_in8 1200 (by omega) (by decide)) (nI_clamp (by omega)) ?_
    rw [show o + 67 + 1 = o + 68 from rfl, hq2 i hi]
    refine r_iret rfl dX9_written_75 ?_
    exact ⟨rfl, ⟨Nat.le_refl _, Nat.le_succ _⟩, fun q => q, fun a a1 a2 => ⟨rfl, hu1 a a1, rfl, rfl⟩, b, s, f, l, hC1⟩


/-! STREET: the reference reads an operand -/
theorem atom_nz {T : RT} {h i : Nat} (h0 : (pAtom T h i).1 = 0) : (pAtom T h i).2.1 = ((pAtom T h i).2.1 - 1) + 1 ∧ ¬ tkK T ((pAtom T h i).2.1 - 1) = nI 0 := by
  refine ⟨by have := atom_gt h0; omega, ?_⟩
  unfold pAtom at h0 ⊢
  by_cases a : tkK T i = nI 2
  · rw [if_pos a] at h0 ⊢
    by_cases b : 4 < tkL T i
    · rw [if_pos b] at h0; exact absurd h0 (by show ¬ (2 : Nat) = 0; decide)
    · rw [if_neg b]
      show ¬ tkK T i = nI 0
      rw [a]; decide
  · rw [if_neg a] at h0 ⊢
    by_cases b : tkK T i = nI 141
    · rw [if_pos b] at h0 ⊢
      by_cases c : tkK T (i + 1) = nI 2
      · rw [if_neg (fun q => q c)] at h0 ⊢
        by_cases d : 4 < tkL T (i + 1)
        · rw [if_pos d] at h0; exact absurd h0 (by show ¬ (2 : Nat) = 0; decide)
        · rw [if_neg d] at h0 ⊢
          by_cases e : nI 7 < tkV T (i + 1)
          · rw [if_pos e] at h0; exact absurd h0 (by show ¬ (2 : Nat) = 0; decide)
          · rw [if_neg e]
            show ¬ tkK T (i + 1) = nI 0
            rw [c]; decide
      · rw [if_pos c] at h0; exact absurd h0 (by show ¬ (1 : Nat) = 0; decide)
    · rw [if_neg b] at h0 ⊢
      by_cases c : cov (tkK T i) h = -1
      · rw [if_neg (fun q => q c)] at h0
        have h0 : (if tkK T i < nI 128 then 1 else 3) = 0 := h0
        by_cases d : tkK T i < nI 128
        · rw [if_pos d] at h0; exact absurd h0 (by decide)
        · rw [if_neg d] at h0; exact absurd h0 (by decide)
      · rw [if_pos c]
        show ¬ tkK T i = nI 0
        intro q
        rw [q] at c
        exact c rfl
theorem drpW_len (L : Nat) : ∀ (w : List Nat), (drpW L w).1.length + (drpW L w).2.length = w.length
  | [] => rfl
  | x :: t => by
    unfold drpW
    split
    · have := drpW_len L t
      simp only [List.length_cons]
      omega
    · simp
theorem drpW_op (L : Nat) : ∀ (w : List Nat), opens (drpW L w).2 = opens w ∧ ∀ x ∈ (drpW L w).1, x ∈ w ∧ ¬ x = 0
  | [] => ⟨rfl, fun x hx => absurd hx List.not_mem_nil⟩
  | x :: t => by
    unfold drpW
    split
    · rename_i q
      have ih := drpW_op L t
      refine ⟨ih.1.trans (opens_cons q.1).symm, fun y hy => ?_⟩
      rcases List.mem_cons.mp hy with r | r
      · rw [r]; exact ⟨List.mem_cons_self, q.1⟩
      · exact ⟨List.mem_cons_of_mem _ (ih.2 y r).1, (ih.2 y r).2⟩
    · exact ⟨rfl, fun y hy => absurd hy List.not_mem_nil⟩
theorem drp0 : ∀ (w : List Nat), 0 < opens w → ∃ t, (drpW 0 w).2 = 0 :: t ∧ opens t + 1 = opens w
  | [], h => absurd h (Nat.lt_irrefl 0)
  | x :: t, h => by
    by_cases c : x = 0
    · subst c
      refine ⟨t, rfl, ?_⟩
      show _ = 1 + opens t
      omega
    · rw [opens_cons c] at h
      obtain ⟨u, h1, h2⟩ := drp0 t h
      refine ⟨u, ?_, by rw [opens_cons c]; exact h2⟩
      show (if ¬ x = 0 ∧ 0 ≤ stN x then (x :: (drpW 0 t).1, (drpW 0 t).2) else ([], x :: t)).2 = _
      rw [if_pos ⟨c, Nat.zero_le _⟩]
      exact h1
theorem lkm_ops : ∀ (p out : List Nat), (∀ x ∈ p, 20003 ≤ x) → lkm 0 (out ++ p) = lkm 0 out
  | [], out, _ => by rw [List.append_nil]
  | x :: t, out, h => by
    rw [show out ++ x :: t = (out ++ [x]) ++ t by simp, lkm_ops t (out ++ [x]) (fun y hy => h y (List.mem_cons_of_mem _ hy)), lkm_n (by have := h x List.mem_cons_self; omega)]
theorem opOK_op {w : List Nat} (h : opOK w) {L : Nat} : ∀ x ∈ (drpW L w).1, 20003 ≤ x := fun x hx => by
  have := (drpW_op L w).2 x hx
  have h2 := h x this.1
  have := this.2
  omega
theorem kwI_12 {k : Int32} (h : ¬ k = nI 135) : ¬ kwI k = nI 12 := by
  unfold kwI
  by_cases a : k = nI 136
  · rw [if_pos a]; decide
  rw [if_neg a]
  by_cases a : k = nI 137
  · rw [if_pos a]; decide
  rw [if_neg a]
  by_cases a : k = nI 138
  · rw [if_pos a]; decide
  rw [if_neg a]
  by_cases a : k = nI 139
  · rw [if_pos a]; decide
  rw [if_neg a]
  by_cases a : k = nI 140
  · rw [if_pos a]; decide
  rw [if_neg a]
  by_cases a : k = nI 129
  · rw [if_pos a]; decide
  rw [if_neg a]
  by_cases a : k = nI 141
  · rw [if_pos a]; decide
  rw [if_neg a]
  by_cases a : k = nI 130
  · rw [if_pos a]; decide
  rw [if_neg a]
  by_cases a : k = nI 131
  · rw [if_pos a]; decide
  rw [if_neg a]
  by_cases a : k = nI 132
  · rw [if_pos a]; decide
  rw [if_neg a]
  by_cases a : k = nI 134
  · rw [if_pos a]; decide
  rw [if_neg a]
  by_cases a : k = nI 133
  · rw [if_pos a]; decide
  rw [if_neg a, if_neg h]
  decide
theorem dX10_part_0 : decode cX10_part 0 = .ok (.aload_n 0, 1) := by decide +kernel
theorem dX10_part_1 : decode cX10_part 1 = .ok (.invokevirtual 252, 3) := by decide +kernel
theorem dX10_part_4 : decode cX10_part 4 = .ok (.ifCond .ne 4, 3) := by decide +kernel
theorem dX10_part_7 : decode cX10_part 7 = .ok (.return_, 1) := by decide +kernel
theorem dX10_part_8 : decode cX10_part 8 = .ok (.aload_n 0, 1) := by decide +kernel
theorem dX10_part_9 : decode cX10_part 9 = .ok (.getfield 226, 3) := by decide +kernel
theorem dX10_part_12 : decode cX10_part 12 = .ok (.iconst 2, 1) := by decide +kernel
theorem dX10_part_13 : decode cX10_part 13 = .ok (.if_icmp .ne 32, 3) := by decide +kernel
theorem dX10_part_16 : decode cX10_part 16 = .ok (.aload_n 0, 1) := by decide +kernel
theorem dX10_part_17 : decode cX10_part 17 = .ok (.getfield 236, 3) := by decide +kernel
theorem dX10_part_20 : decode cX10_part 20 = .ok (.iconst 4, 1) := by decide +kernel
theorem dX10_part_21 : decode cX10_part 21 = .ok (.if_icmp .le 8, 3) := by decide +kernel
theorem dX10_part_24 : decode cX10_part 24 = .ok (.aload_n 0, 1) := by decide +kernel
theorem dX10_part_25 : decode cX10_part 25 = .ok (.iconst 2, 1) := by decide +kernel
theorem dX10_part_26 : decode cX10_part 26 = .ok (.invokevirtual 259, 3) := by decide +kernel
theorem dX10_part_29 : decode cX10_part 29 = .ok (.aload_n 0, 1) := by decide +kernel
theorem dX10_part_30 : decode cX10_part 30 = .ok (.iconst 1, 1) := by decide +kernel
theorem dX10_part_31 : decode cX10_part 31 = .ok (.invokevirtual 272, 3) := by decide +kernel
theorem dX10_part_34 : decode cX10_part 34 = .ok (.aload_n 0, 1) := by decide +kernel
theorem dX10_part_35 : decode cX10_part 35 = .ok (.aload_n 0, 1) := by decide +kernel
theorem dX10_part_36 : decode cX10_part 36 = .ok (.getfield 220, 3) := by decide +kernel
theorem dX10_part_39 : decode cX10_part 39 = .ok (.invokevirtual 272, 3) := by decide +kernel
theorem dX10_part_42 : decode cX10_part 42 = .ok (.goto 23, 3) := by decide +kernel
theorem dX10_part_45 : decode cX10_part 45 = .ok (.aload_n 0, 1) := by decide +kernel
theorem dX10_part_46 : decode cX10_part 46 = .ok (.getfield 226, 3) := by decide +kernel
theorem dX10_part_49 : decode cX10_part 49 = .ok (.iconst 1, 1) := by decide +kernel
theorem dX10_part_50 : decode cX10_part 50 = .ok (.if_icmp .ne 10, 3) := by decide +kernel
theorem dX10_part_53 : decode cX10_part 53 = .ok (.aload_n 0, 1) := by decide +kernel
theorem dX10_part_54 : decode cX10_part 54 = .ok (.invokevirtual 287, 3) := by decide +kernel
theorem dX10_part_57 : decode cX10_part 57 = .ok (.goto 8, 3) := by decide +kernel
theorem dX10_part_60 : decode cX10_part 60 = .ok (.aload_n 0, 1) := by decide +kernel
theorem dX10_part_61 : decode cX10_part 61 = .ok (.iconst 1, 1) := by decide +kernel
theorem dX10_part_62 : decode cX10_part 62 = .ok (.invokevirtual 259, 3) := by decide +kernel
theorem dX10_part_65 : decode cX10_part 65 = .ok (.aload_n 0, 1) := by decide +kernel
theorem dX10_part_66 : decode cX10_part 66 = .ok (.invokevirtual 252, 3) := by decide +kernel
theorem dX10_part_69 : decode cX10_part 69 = .ok (.ifCond .eq 7, 3) := by decide +kernel
theorem dX10_part_72 : decode cX10_part 72 = .ok (.aload_n 0, 1) := by decide +kernel
theorem dX10_part_73 : decode cX10_part 73 = .ok (.invokevirtual 256, 3) := by decide +kernel
theorem dX10_part_76 : decode cX10_part 76 = .ok (.return_, 1) := by decide +kernel

set_option maxHeartbeats 4000000 in
set_option maxRecDepth 100000 in
theorem c_partR {m h : Nat} {T : RT} {a0 : Nat} {C0 : Nat → Int32} {i : Nat} {out w : List Nat} {te : Nat → Bool} {n : Nat} {kd : mK} {I : mI} {J : mJ} {P : mP} (hM : kM kd P m) (hT : tkA T) (hh : h < 8) (hg : eG m h T a0 C0 0 I J i out w te) : Ct yX10_part cX10_part 1 none 9 0 0 [.ref m] n kd I J P (fun z n' kd' I' J' P' => z = .inl none ∧ n' = n ∧ kd' = kd ∧ P' = P ∧ eFr m I I' J J' ∧ ((pAtom T h i).1 = 0 → eG m h T a0 C0 0 I' J' (pAtom T h i).2.1 (out ++ (pAtom T h i).2.2) w te) ∧ (¬ (pAtom T h i).1 = 0 → eB m T I' (pAtom T h i).1 (pAtom T h i).2.1)) := by
  have hg0 := hg
  obtain ⟨⟨h16, h27, hgi⟩, ⟨hk, hi⟩, ⟨top, hC, hb⟩, h29, hW, hwi, hD⟩ := hg
  have h501 := hT.1.1.1
  refine ct_of 0 (by decide +kernel) (Nat.le_of_ble_eq_true rfl) rfl ?_
  by_cases k2 : tkK T i = nI 2
  · have h21 : nI (srt (tkAt T i).1) = nI 2 := by rw [show (tkAt T i).1 = nI 2 from k2]; rfl
    have h23 := (hk.2.2.2.2.1 k2).1
    have hlb : tkL T i < 2 ^ 31 := by have := hT.2.2 i hi; have := hgi.2.1; unfold tkL; omega
    have hn := hT.1.2.2 i k2
    by_cases l4 : 4 < tkL T i
    · rw [show pAtom T h i = (2, i, []) from by unfold pAtom; rw [if_pos k2, if_pos l4]]
      have hB := hg0.wrong hT (by decide) (f := 2) (by decide) (by decide)
      have hb2 : wrI m (nI 2) I m 30 = nI top := by rw [wrI_g h16, am_up_s, am_up_n _ _ (by decide), am_up_n _ _ (by decide)]; exact hC.1
      have hB2 : eB m T (puI m (top + 1) (wrI m (nI 2) I m 24) (puI m top (nI 1) (wrI m (nI 2) I))) 2 i := by
        have hd : dFr m (wrI m (nI 2) I) (puI m (top + 1) (wrI m (nI 2) I m 24) (puI m top (nI 1) (wrI m (nI 2) I))) := puI_fr.tr puI_fr
        obtain ⟨b1, b2, b3, b4⟩ := hB
        exact ⟨(hd.2 _ (by decide) (by decide)).trans b1, b2, (hd.2 _ (by decide) (by decide)).trans b3, top + 2, w.length, puI_30, by rw [puI_31, puI_31, wrI_g h16, am_up_s, am_up_n _ _ (by decide), am_up_n _ _ (by decide)]; exact hW.1, by omega, by omega⟩
      refine r_aload_n dX10_part_0 rfl ?_
      refine r_virtE (c_good m hM) lk_X10_252 mc_X10_isGood dX10_part_1 (kM_0 hM) (by decide) rfl rfl (Nat.le_of_ble_eq_true rfl) ?_
      rw [h16, show decide (nI 0 = 0) = true from rfl]
      refine r_if_ne (tgt := 8) dX10_part_4 (by decide) (fun _ => ?_) (fun hz => absurd hz (show ¬ _ from (by decide)))
      refine r_aload_n dX10_part_8 rfl ?_
      refine r_getI dX10_part_9 fl_X10_226 rfl (kM_0 hM) ?_
      rw [hk.2.2.2.1, h21]
      refine r_iconst (v := nI 2) dX10_part_12 (by decide) ?_
      refine r_icmp_ne (tgt := 45) dX10_part_13 (by decide) (fun hz => absurd (show _ from rfl) hz) (fun _ => ?_)
      refine r_aload_n dX10_part_16 rfl ?_
      refine r_getI dX10_part_17 fl_X10_236 rfl (kM_0 hM) ?_
      rw [show I m 23 = nI (tkL T i) from h23]
      refine r_iconst (v := nI 4) dX10_part_20 (by decide) ?_
      refine r_icmp_le (tgt := 29) dX10_part_21 (by decide) (fun hz => absurd hz (show ¬ _ from (by rw [nI_leI (by omega) (by omega)]; omega))) (fun _ => ?_)
      refine r_aload_n dX10_part_24 rfl ?_
      refine r_iconst (v := nI 2) dX10_part_25 (by decide) ?_
      refine r_virtV (c_wrong m (nI 2) hM) lk_X10_259 mc_X10_wrong dX10_part_26 (kM_0 hM) (by decide) rfl rfl (Nat.le_of_ble_eq_true rfl) ?_
      refine r_aload_n dX10_part_29 rfl ?_
      refine r_iconst (v := nI 1) dX10_part_30 (by decide) ?_
      refine r_virtV (c_puI m top (nI 1) hM hb2 (by omega)) lk_X10_272 mc_X10_puts dX10_part_31 (kM_0 hM) (by decide) rfl rfl (Nat.le_of_ble_eq_true rfl) ?_
      refine r_aload_n dX10_part_34 rfl ?_
      refine r_aload_n dX10_part_35 rfl ?_
      refine r_getI dX10_part_36 fl_X10_220 rfl (kM_0 hM) ?_
      rw [puI_fr.2 24 (by decide) (by decide)]
      refine r_virtV (c_puI m (top + 1) (wrI m (nI 2) I m 24) hM puI_30 (by omega)) lk_X10_272 mc_X10_puts dX10_part_39 (kM_0 hM) (by decide) rfl rfl (Nat.le_of_ble_eq_true rfl) ?_
      refine r_goto (tgt := 65) dX10_part_42 (by decide) ?_
      refine r_aload_n dX10_part_65 rfl ?_
      refine r_virtE (c_good m hM) lk_X10_252 mc_X10_isGood dX10_part_66 (kM_0 hM) (by decide) rfl rfl (Nat.le_of_ble_eq_true rfl) ?_
      rw [hB2.bad]
      refine r_if_eq (tgt := 76) dX10_part_69 (by decide) (fun _ => ?_) (fun hz => absurd (show _ from rfl) hz)
      refine r_vret rfl dX10_part_76 ?_
      exact ⟨rfl, rfl, rfl, rfl, ((eFr.wr).tr eFr.pu).tr eFr.pu, fun q => absurd q (by show ¬ (2 : Nat) = 0; decide), fun _ => hB2⟩
    · have hv := hn (by omega)
      have hno := nO_le (K := 9999) (by decide) hv.1 hv.2
      rw [show pAtom T h i = (0, i + 1, [nO (tkV T i)]) from by unfold pAtom; rw [if_pos k2, if_neg l4]]
      obtain ⟨vv, hvv⟩ : ∃ vv, vv = nO (tkV T i) := ⟨_, rfl⟩
      rw [← hvv] at hno ⊢
      have hval : I m 24 = nI vv := ((hk.2.2.2.2.1 k2).2 (by show T.2.2.2.2.1 i - T.2.2.2.1 i ≤ 4; unfold tkL at l4; omega)).trans hno.2
      have hi2 : i + 1 < T.2.1 := hT.1.2.1 i (by rw [k2]; decide)
      have hg2 : eG m h T a0 C0 2 (puI m (top + 1) (nI vv) (puI m top (nI 1) I)) J i (out ++ [vv]) w te := eG.val (by omega) (Or.inl ⟨rfl, rfl, by omega⟩) ⟨h16, h27, hgi⟩ ⟨hk, hi⟩ hC (by omega) (by rw [lkm_n (by omega)]; exact h29) hW hwi hD
      refine r_aload_n dX10_part_0 rfl ?_
      refine r_virtE (c_good m hM) lk_X10_252 mc_X10_isGood dX10_part_1 (kM_0 hM) (by decide) rfl rfl (Nat.le_of_ble_eq_true rfl) ?_
      rw [h16, show decide (nI 0 = 0) = true from rfl]
      refine r_if_ne (tgt := 8) dX10_part_4 (by decide) (fun _ => ?_) (fun hz => absurd hz (show ¬ _ from (by decide)))
      refine r_aload_n dX10_part_8 rfl ?_
      refine r_getI dX10_part_9 fl_X10_226 rfl (kM_0 hM) ?_
      rw [hk.2.2.2.1, h21]
      refine r_iconst (v := nI 2) dX10_part_12 (by decide) ?_
      refine r_icmp_ne (tgt := 45) dX10_part_13 (by decide) (fun hz => absurd (show _ from rfl) hz) (fun _ => ?_)
      refine r_aload_n dX10_part_16 rfl ?_
      refine r_getI dX10_part_17 fl_X10_236 rfl (kM_0 hM) ?_
      rw [show I m 23 = nI (tkL T i) from h23]
      refine r_iconst (v := nI 4) dX10_part_20 (by decide) ?_
      refine r_icmp_le (tgt := 29) dX10_part_21 (by decide) (fun _ => ?_) (fun hz => absurd (show _ from (by rw [nI_leI (by omega) (by omega)]; omega)) hz)
      refine r_aload_n dX10_part_29 rfl ?_
      refine r_iconst (v := nI 1) dX10_part_30 (by decide) ?_
      refine r_virtV (c_puI m top (nI 1) hM hC.1 (by omega)) lk_X10_272 mc_X10_puts dX10_part_31 (kM_0 hM) (by decide) rfl rfl (Nat.le_of_ble_eq_true rfl) ?_
      refine r_aload_n dX10_part_34 rfl ?_
      refine r_aload_n dX10_part_35 rfl ?_
      refine r_getI dX10_part_36 fl_X10_220 rfl (kM_0 hM) ?_
      rw [puI_fr.2 24 (by decide) (by decide), hval]
      refine r_virtV (c_puI m (top + 1) (nI vv) hM puI_30 (by omega)) lk_X10_272 mc_X10_puts dX10_part_39 (kM_0 hM) (by decide) rfl rfl (Nat.le_of_ble_eq_true rfl) ?_
      refine r_goto (tgt := 65) dX10_part_42 (by decide) ?_
      refine r_aload_n dX10_part_65 rfl ?_
      refine r_virtE (c_good m hM) lk_X10_252 mc_X10_isGood dX10_part_66 (kM_0 hM) (by decide) rfl rfl (Nat.le_of_ble_eq_true rfl) ?_
      rw [hg2.1.1, show decide (nI 0 = 0) = true from rfl]
      refine r_if_eq (tgt := 76) dX10_part_69 (by decide) (fun hz => absurd hz (show ¬ _ from (by decide))) (fun _ => ?_)
      refine r_aload_n dX10_part_72 rfl ?_
      refine r_virt (kc2 := 0) (ks2 := 0) (c_goesT m (i) hM hT hg2.1.2.2 hg2.2.1.1 hi2) lk_X10_256 mc_X10_goes dX10_part_73 (kM_0 hM) (by decide) rfl rfl (Nat.le_of_ble_eq_true rfl) (by decide) (by decide) (fun _ _ _ _ _ _ h => nomatch h.1) ?_
      rintro v8 n8 kd8 I8 J8 P8 ⟨h00, rfl, rfl, rfl, hf8, hk8⟩
      cases h00
      simp only [Option.toList, List.nil_append]
      refine r_vret rfl dX10_part_76 ?_
      exact ⟨rfl, rfl, rfl, rfl, (eFr.pu.tr eFr.pu).tr hf8.e, fun _ => hg2.nx (by decide) hf8 hk8 hi2, fun q => absurd trivial q⟩
  · by_cases hw : tkK T i < nI 128
    · have hr : pAtom T h i = (1, i, []) := by rw [paw_o (fun q => by rw [q] at hw; exact absurd hw (by decide)) (fun q => by rw [q] at hw; exact absurd hw (by decide)) (fun q => by rw [q] at hw; exact absurd hw (by decide)) (fun q => by rw [q] at hw; exact absurd hw (by decide)) (fun q => by rw [q] at hw; exact absurd hw (by decide)) (fun q => by rw [q] at hw; exact absurd hw (by decide)) (fun q => by rw [q] at hw; exact absurd hw (by decide)) k2, if_pos hw]
      rw [hr]
      have hB := hg0.wrong hT (by decide) (f := 1) (by decide) (by decide)
      have hsl := srt_lt (tkK T i)
      refine r_aload_n dX10_part_0 rfl ?_
      refine r_virtE (c_good m hM) lk_X10_252 mc_X10_isGood dX10_part_1 (kM_0 hM) (by decide) rfl rfl (Nat.le_of_ble_eq_true rfl) ?_
      rw [h16, show decide (nI 0 = 0) = true from rfl]
      refine r_if_ne (tgt := 8) dX10_part_4 (by decide) (fun _ => ?_) (fun hz => absurd hz (show ¬ _ from (by decide)))
      refine r_aload_n dX10_part_8 rfl ?_
      refine r_getI dX10_part_9 fl_X10_226 rfl (kM_0 hM) ?_
      rw [hk.2.2.2.1]
      refine r_iconst (v := nI 2) dX10_part_12 (by decide) ?_
      refine r_icmp_ne (tgt := 45) dX10_part_13 (by decide) (fun _ => ?_) (fun hz => absurd hz (show ¬ _ from (fun z => k2 (srt_2 ((nI_eq (Nat.lt_trans hsl (by decide)) (by decide)).mp z)))))
      refine r_aload_n dX10_part_45 rfl ?_
      refine r_getI dX10_part_46 fl_X10_226 rfl (kM_0 hM) ?_
      rw [hk.2.2.2.1]
      refine r_iconst (v := nI 1) dX10_part_49 (by decide) ?_
      refine r_icmp_ne (tgt := 60) dX10_part_50 (by decide) (fun _ => ?_) (fun hz => absurd hz (show ¬ _ from (fun z => srt_1.mp ((nI_eq (Nat.lt_trans hsl (by decide)) (by decide)).mp z) hw)))
      refine r_aload_n dX10_part_60 rfl ?_
      refine r_iconst (v := nI 1) dX10_part_61 (by decide) ?_
      refine r_virtV (c_wrong m (nI 1) hM) lk_X10_259 mc_X10_wrong dX10_part_62 (kM_0 hM) (by decide) rfl rfl (Nat.le_of_ble_eq_true rfl) ?_
      refine r_aload_n dX10_part_65 rfl ?_
      refine r_virtE (c_good m hM) lk_X10_252 mc_X10_isGood dX10_part_66 (kM_0 hM) (by decide) rfl rfl (Nat.le_of_ble_eq_true rfl) ?_
      rw [hB.bad]
      refine r_if_eq (tgt := 76) dX10_part_69 (by decide) (fun _ => ?_) (fun hz => absurd (show _ from rfl) hz)
      refine r_vret rfl dX10_part_76 ?_
      exact ⟨rfl, rfl, rfl, rfl, eFr.wr, fun q => absurd q (by show ¬ (1 : Nat) = 0; decide), fun _ => hB⟩
    · have h21 : nI (srt (tkAt T i).1) = nI 1 := by rw [show srt (tkAt T i).1 = 1 from srt_1.mpr hw]
      by_cases h0 : (pAtom T h i).1 = 0
      · have haz := atom_nz h0
        refine r_aload_n dX10_part_0 rfl ?_
        refine r_virtE (c_good m hM) lk_X10_252 mc_X10_isGood dX10_part_1 (kM_0 hM) (by decide) rfl rfl (Nat.le_of_ble_eq_true rfl) ?_
        rw [h16, show decide (nI 0 = 0) = true from rfl]
        refine r_if_ne (tgt := 8) dX10_part_4 (by decide) (fun _ => ?_) (fun hz => absurd hz (show ¬ _ from (by decide)))
        refine r_aload_n dX10_part_8 rfl ?_
        refine r_getI dX10_part_9 fl_X10_226 rfl (kM_0 hM) ?_
        rw [hk.2.2.2.1, h21]
        refine r_iconst (v := nI 2) dX10_part_12 (by decide) ?_
        refine r_icmp_ne (tgt := 45) dX10_part_13 (by decide) (fun _ => ?_) (fun hz => absurd hz (show ¬ _ from (by decide)))
        refine r_aload_n dX10_part_45 rfl ?_
        refine r_getI dX10_part_46 fl_X10_226 rfl (kM_0 hM) ?_
        rw [hk.2.2.2.1, h21]
        refine r_iconst (v := nI 1) dX10_part_49 (by decide) ?_
        refine r_icmp_ne (tgt := 60) dX10_part_50 (by decide) (fun hz => absurd (show _ from rfl) hz) (fun _ => ?_)
        refine r_aload_n dX10_part_53 rfl ?_
        refine r_virt (kc2 := 0) (ks2 := 0) (c_valueR hM hT hh hg0 hw) lk_X10_287 mc_X10_valueHere dX10_part_54 (kM_0 hM) (by decide) rfl rfl (Nat.le_of_ble_eq_true rfl) (by decide) (by decide) (fun _ _ _ _ _ _ h => nomatch h.1) ?_
        rintro v1 n1 kd1 I1 J1 P1 ⟨h00, rfl, rfl, rfl, hf1, hy1, hn1⟩
        cases h00
        simp only [Option.toList, List.nil_append]
        refine r_goto (tgt := 65) dX10_part_57 (by decide) ?_
        refine r_aload_n dX10_part_65 rfl ?_
        have hg1 := hy1 h0
        refine r_virtE (c_good m hM) lk_X10_252 mc_X10_isGood dX10_part_66 (kM_0 hM) (by decide) rfl rfl (Nat.le_of_ble_eq_true rfl) ?_
        rw [hg1.1.1, show decide (nI 0 = 0) = true from rfl]
        refine r_if_eq (tgt := 76) dX10_part_69 (by decide) (fun hz => absurd hz (show ¬ _ from (by decide))) (fun _ => ?_)
        refine r_aload_n dX10_part_72 rfl ?_
        refine r_virt (kc2 := 0) (ks2 := 0) (c_goesT m ((pAtom T h i).2.1 - 1) hM hT hg1.1.2.2 hg1.2.1.1 (hT.1.2.1 _ haz.2)) lk_X10_256 mc_X10_goes dX10_part_73 (kM_0 hM) (by decide) rfl rfl (Nat.le_of_ble_eq_true rfl) (by decide) (by decide) (fun _ _ _ _ _ _ h => nomatch h.1) ?_
        rintro v8 n8 kd8 I8 J8 P8 ⟨h00, rfl, rfl, rfl, hf8, hk8⟩
        cases h00
        simp only [Option.toList, List.nil_append]
        refine r_vret rfl dX10_part_76 ?_
        refine ⟨rfl, rfl, rfl, rfl, hf1.tr hf8.e, fun _ => ?_, fun q => absurd h0 q⟩
        rw [haz.1]
        exact hg1.nx (by decide) hf8 hk8 (hT.1.2.1 _ haz.2)
      · skip
        refine r_aload_n dX10_part_0 rfl ?_
        refine r_virtE (c_good m hM) lk_X10_252 mc_X10_isGood dX10_part_1 (kM_0 hM) (by decide) rfl rfl (Nat.le_of_ble_eq_true rfl) ?_
        rw [h16, show decide (nI 0 = 0) = true from rfl]
        refine r_if_ne (tgt := 8) dX10_part_4 (by decide) (fun _ => ?_) (fun hz => absurd hz (show ¬ _ from (by decide)))
        refine r_aload_n dX10_part_8 rfl ?_
        refine r_getI dX10_part_9 fl_X10_226 rfl (kM_0 hM) ?_
        rw [hk.2.2.2.1, h21]
        refine r_iconst (v := nI 2) dX10_part_12 (by decide) ?_
        refine r_icmp_ne (tgt := 45) dX10_part_13 (by decide) (fun _ => ?_) (fun hz => absurd hz (show ¬ _ from (by decide)))
        refine r_aload_n dX10_part_45 rfl ?_
        refine r_getI dX10_part_46 fl_X10_226 rfl (kM_0 hM) ?_
        rw [hk.2.2.2.1, h21]
        refine r_iconst (v := nI 1) dX10_part_49 (by decide) ?_
        refine r_icmp_ne (tgt := 60) dX10_part_50 (by decide) (fun hz => absurd (show _ from rfl) hz) (fun _ => ?_)
        refine r_aload_n dX10_part_53 rfl ?_
        refine r_virt (kc2 := 0) (ks2 := 0) (c_valueR hM hT hh hg0 hw) lk_X10_287 mc_X10_valueHere dX10_part_54 (kM_0 hM) (by decide) rfl rfl (Nat.le_of_ble_eq_true rfl) (by decide) (by decide) (fun _ _ _ _ _ _ h => nomatch h.1) ?_
        rintro v1 n1 kd1 I1 J1 P1 ⟨h00, rfl, rfl, rfl, hf1, hy1, hn1⟩
        cases h00
        simp only [Option.toList, List.nil_append]
        refine r_goto (tgt := 65) dX10_part_57 (by decide) ?_
        refine r_aload_n dX10_part_65 rfl ?_
        have hB := hn1 h0
        refine r_virtE (c_good m hM) lk_X10_252 mc_X10_isGood dX10_part_66 (kM_0 hM) (by decide) rfl rfl (Nat.le_of_ble_eq_true rfl) ?_
        rw [hB.bad]
        refine r_if_eq (tgt := 76) dX10_part_69 (by decide) (fun _ => ?_) (fun hz => absurd (show _ from rfl) hz)
        refine r_vret rfl dX10_part_76 ?_
        exact ⟨rfl, rfl, rfl, rfl, hf1, fun q => absurd q h0, fun _ => hB⟩

set_option maxHeartbeats 4000000 in
set_option maxRecDepth 100000 in
theorem c_partB {m : Nat} {T : RT} {f j : Nat} {n : Nat} {kd : mK} {I : mI} {J : mJ} {P : mP} (hM : kM kd P m) (hB : eB m T I f j) : Ct yX10_part cX10_part 1 none 9 0 0 [.ref m] n kd I J P (am_is none n kd I J P) := by
  refine ct_of 0 (by decide +kernel) (Nat.le_of_ble_eq_true rfl) rfl ?_
  refine r_aload_n dX10_part_0 rfl ?_
  refine r_virtE (c_good m hM) lk_X10_252 mc_X10_isGood dX10_part_1 (kM_0 hM) (by decide) rfl rfl (Nat.le_of_ble_eq_true rfl) ?_
  rw [hB.bad]
  refine r_if_ne (tgt := 8) dX10_part_4 (by decide) (fun hz => absurd (show _ from rfl) hz) (fun _ => ?_)
  refine r_vret rfl dX10_part_7 ?_
  exact am_is.mk


/-! BUILD: the reference -/
theorem frD.cg {I I' : mI} {m H : Nat} {q : List Nat} (h : ∀ j, j = 55 ∨ j = 56 ∨ j = 57 → I' m j = I m j) (hF : frD I m H q) : frD I' m H q := by
  unfold frD at hF ⊢
  rw [h 55 (by omega), h 56 (by omega), h 57 (by omega)]
  exact hF
theorem hT_one {m H : Nat} {lk : Nat → Nat} {rid : Nat → List Nat} {n : Nat} {kd : mK} {I : mI} {J : mJ} {P : mP} (hM : kM kd P m) (hH8 : H ≤ 8) (hH : I m 1 = nI H) (k h : Nat) (hk : k < H) (hfr : ¬ nI k = I m 54) (hrc : okd (rid k) 0 ∧ ∃ a, I (m + 5) k = nI a ∧ rcs (I (m + 7)) (rid k) a) (hLK : ∀ t, t < H → 10000 + t ∈ rid k → (lk k).testBit t = true) (N : Nat → Nat) (Pl R Nb q : Nat → Int32) (hR : ∀ j, j ≤ h → R j = nI (N j)) (hq : ∀ j, j ≠ 52 → j ≠ 53 → q j = I m j) (haw : awS (lk k) k = h) : Ct yX10_isTrue cX10_isTrue 5 (some .boolean) 2 0 0 [.ref m, .int (nI k)] n kd (xM I m Pl R Nb q) J P (am_sc (some (.int (bz (tvN (I (m + 1)) (I (m + 2)) (I m 2) H rid N k)))) (m + 26) n kd (xM I m Pl R Nb q) J P) := by
  obtain ⟨hok, a, ha, hra⟩ := hrc
  have x5 : xM I m Pl R Nb q (m + 5) = I (m + 5) := by unfold xM; rw [am_up_n _ _ (by omega), am_up_n _ _ (by omega), am_up_n _ _ (by omega), am_up_n _ _ (by omega)]
  have x7 : xM I m Pl R Nb q (m + 7) = I (m + 7) := by unfold xM; rw [am_up_n _ _ (by omega), am_up_n _ _ (by omega), am_up_n _ _ (by omega), am_up_n _ _ (by omega)]
  have x1 : xM I m Pl R Nb q (m + 1) = I (m + 1) := by unfold xM; rw [am_up_n _ _ (by omega), am_up_n _ _ (by omega), am_up_n _ _ (by omega), am_up_n _ _ (by omega)]
  have x2 : xM I m Pl R Nb q (m + 2) = I (m + 2) := by unfold xM; rw [am_up_n _ _ (by omega), am_up_n _ _ (by omega), am_up_n _ _ (by omega), am_up_n _ _ (by omega)]
  have hc := c_X10_isTrue (n := n) (I := xM I m Pl R Nb q) (J := J) m k H a (rid k) hM hk hH8 (by rw [xM_m, hq 1 (by decide) (by decide)]; exact hH) (by rw [xM_m, hq 54 (by decide) (by decide)]; exact hfr) (by rw [x5]; exact ha) (by rw [x7]; exact hra) hok
  have he : evs (opdR (xM I m Pl R Nb q) m k H) (rid k) [] = evs (opN (I (m + 1)) (I (m + 2)) (I m 2) k H N) (rid k) [] := by
    apply evs_congr
    intro c hcm c1 c2
    unfold opdR opN
    rw [xM_m, xM_25, x1, x2, hq 2 (by decide) (by decide)]
    by_cases c3 : c < 20000
    · rw [if_pos c3, if_pos c3]
      by_cases c4 : c - 10000 < H
      · rw [if_pos c4, if_pos c4]
        apply hR
        have hbit := hLK (c - 10000) c4 (by rw [show 10000 + (c - 10000) = c by omega]; exact hcm)
        have hl := bit_log hbit
        unfold awS at haw
        rw [if_neg hl.2] at haw
        omega
      · rw [if_neg c4, if_neg c4]
    · rw [if_neg c3, if_neg c3]
  rw [he] at hc
  exact hc
theorem xkF {m H : Nat} {res : Nat × List (Nat → Nat) × Bool} {n : Nat} {kd : mK} {I : mI} {J : mJ} {P : mP} (hl : res.2.1.length ≤ 2) {z : Option Value ⊕ String} {n' : Nat} {kd' : mK} {I' : mI} {J' : mJ} {P' : mP} (h : xkP m H (I (m + 27)) (I m) res n kd I J P z n' kd' I' J' P') : z = .inl (some (.int (bz (gdR res)))) ∧ n' = n ∧ kd' = kd ∧ J' = J ∧ P' = P ∧ rFr m I I' ∧ I' m 52 = nI res.2.1.length := by
  obtain ⟨Pl, R, rfl, rfl, rfl, rfl, rfl, rfl⟩ := h
  refine ⟨rfl, rfl, rfl, rfl, rfl, ⟨fun a x y z u => ?_, fun j x y => ?_⟩, ?_⟩
  · unfold xM; rw [am_up_n _ _ x, am_up_n _ _ u, am_up_n _ _ y, am_up_n _ _ z]
  · rw [xM_m, qRn _ _ _ x y]
  · rw [xM_m, qR52]
    unfold cutF
    rw [if_pos (by omega)]
set_option maxHeartbeats 4000000 in
set_option maxRecDepth 100000 in
theorem q_seeksF (m : Nat) (q : List Nat) {I0 : mI} {t : Nat} {T : Nat → Nat} {fp : Int32} {rr : Nat → Int32} {H M : Nat} {un : Bool} {cs : Nat → List Nat} {tx : Nat → List Int32} {e : Lf} {im : Option Lf} {wk : Option (List Nat)} {n : Nat} {kd : mK} {I : mI} {J : mJ} {P : mP} (hC : RR m kd I0 P t T fp rr H M un cs tx e im wk) (hz : okZ t T H M cs e) (hH7 : H < 8) (hb : rbS I0 I m H) (hF : frD I m H q) (hlk : I (m + 6) H = nI (lkm 0 q)) : Ct yX10_seeks cX10_seeks 6 (some .boolean) 5 0 0 [.ref m, .int (nI (spB H cs e ||| 2 ^ H)), .int (nI 1), .int (nI 2)] n kd I J P (fun z n' kd' I' J' P' => z = .inl (some (.int (bz (gdR (bR H M un cs e q))))) ∧ n' = n ∧ kd' = kd ∧ J' = J ∧ P' = P ∧ rFr m I I' ∧ I' m 52 = nI (bR H M un cs e q).2.1.length) := by
  obtain ⟨hM, -, hSt, hLf, -, -⟩ := hC
  obtain ⟨okt, oks, okl⟩ := hz
  have hM20 : 2 ≤ M ∧ M ≤ 20 := oks.1
  obtain ⟨hql, hqn, hqt, hqe, hqo⟩ := hF.lt hH7
  obtain ⟨b1, b2, b3, ⟨b4, b5⟩, b6, b7⟩ := hb
  have e1 : I (m + 1) = I0 (m + 1) := b1 _ (by omega) (by omega) (by omega) (by omega) (by omega) (by omega) (by omega)
  have e2 : I (m + 2) = I0 (m + 2) := b1 _ (by omega) (by omega) (by omega) (by omega) (by omega) (by omega) (by omega)
  have e5 : I (m + 5) = I0 (m + 5) := b1 _ (by omega) (by omega) (by omega) (by omega) (by omega) (by omega) (by omega)
  have e7 : I (m + 7) = I0 (m + 7) := b1 _ (by omega) (by omega) (by omega) (by omega) (by omega) (by omega) (by omega)
  have e23 : I (m + 23) = I0 (m + 23) := b1 _ (by omega) (by omega) (by omega) (by omega) (by omega) (by omega) (by omega)
  have e24 : I (m + 24) = I0 (m + 24) := b1 _ (by omega) (by omega) (by omega) (by omega) (by omega) (by omega) (by omega)
  have g2 : I m 2 = nI M := (b3 2 (by decide) (by decide) (by decide) (by decide)).trans hSt.1.2.1
  have g3 : I m 3 = bz un := (b3 3 (by decide) (by decide) (by decide) (by decide)).trans hSt.1.2.2
  have g58 : I m 58 = -1 := (b3 58 (by decide) (by decide) (by decide) (by decide)).trans hSt.2.1.2
  have g47 : I m 47 = nI e.2.2.2.2.length := (b3 47 (by decide) (by decide) (by decide) (by decide)).trans hLf.2.2.1
  have hL : rL I m H e := by
    refine ⟨fun h hh => ?_, ⟨(b3 45 (by decide) (by decide) (by decide) (by decide)).trans hLf.2.1.1, ?_⟩, g47, ?_⟩
    · rw [e1, e2, (b2 h hh).2.1]; exact hLf.1 h hh
    · rw [e23]; exact hLf.2.1.2
    · rw [e24]; exact hLf.2.2.2
  have hnl : lkO (csN cs H q) (H + 1) H = lkm 0 q := by
    unfold lkO
    rw [csN_s, Nat.mod_eq_of_lt hql]
  have hlkR : lkOkR I m (H + 1) (lkO (csN cs H q) (H + 1)) := by
    intro h hh
    refine ⟨?_, Nat.mod_lt _ (Nat.two_pow_pos _)⟩
    by_cases c : h = H
    · subst c
      rw [hlk, b4, look_maskM (by omega) (Nat.lt_trans hql (Nat.pow_lt_pow_right (by decide) (by omega)))]
      unfold lkO
      rw [csN_s]
    · rw [(b2 h (by omega)).2.2, (hSt.2.2 h (by omega)).2.1, b4, look_maskM (by omega) (by omega)]
      unfold lkO
      rw [csN_o c, Nat.mod_mod_of_dvd _ (show 2 ^ (H + 1) ∣ 256 from Nat.pow_dvd_pow 2 (n := 8) (by omega))]
  have hsk' : skTop (TR I m (H + 1) e.2.2.2.2.length (nI (spB H cs e ||| 2 ^ H)) (nI 1) (lkO (csN cs H q) (H + 1)) (tvN (I (m + 1)) (I (m + 2)) (nI M) (H + 1) (csN cs H q))) (barS (I m 58) (I m 59)) (H + 1) M 2 = some (bR H M un cs e q) := by
    rw [skTop_bar (by omega) g58, ← bR_r hH7 hM20.2 hqn hL]
    congr 1
    funext N h
    rw [TR_TN, g3]
    cases un <;> rfl
  refine Ct.mono (c_X10_seeks m (H + 1) M e.2.2.2.2.length 2 (nI (spB H cs e ||| 2 ^ H)) (nI 1) (lkO (csN cs H q) (H + 1)) (tvN (I (m + 1)) (I (m + 2)) (nI M) (H + 1) (csN cs H q)) (bR H M un cs e q) hM (by omega) b4 g2 hM20.2 g47 okl.2.2.1 (by decide) hlkR (fun h h8' hx => absurd (hx.trans g58) (nI_m1 (by omega))) (fun N k h Pl R Nb q9 hR hq hk hbt haw => ?_) (by decide) hsk') (fun z n' kd' I' J' P' hx => xkF (bR_len hH7 hM20.2) hx)
  by_cases c : k = H
  · subst c
    rw [hnl, awS_top hqt hql] at haw
    subst haw
    exact c_trueF m k q (csN cs k q) (I (m + 1)) (I (m + 2)) (nI M) N hM hH7 (by rw [xM_m, hq 54 (by decide) (by decide)]; exact b5) (fun j hj => by rw [xM_25]; exact hR j hj) csN_s (hF.cg (fun j hj => by rw [xM_m, hq j (by omega) (by omega)]))
  · have hk2 : k < H := by omega
    have hsb : bt (nI (spB H cs e)) k = true := by
      rw [bt_nI _ (by omega), Nat.testBit_or, Nat.testBit_two_pow, decide_eq_false (show ¬ H = k by omega), Bool.or_false] at hbt
      rw [bt_nI _ (by omega)]
      exact hbt
    have hne : cs k ≠ [] := fun z => by have := (sp_bit (by omega) hsb).2; simp [z] at this
    have hrk := ((hSt.2.2 k hk2).2.2 hne).1
    have hcs2 : csN cs H q k = cs k := csN_o c
    have h1 := hT_one (lk := lkO (csN cs H q) (H + 1)) (rid := csN cs H q) (n := n) (J := J) hM (show H + 1 ≤ 8 by omega) b4 k h hk (by rw [b5]; exact fun z => c ((nI_eq (by omega) (by omega)).mp z)) (by rw [hcs2, e5, e7]; exact ⟨(oks.2.2.2 k hk2).1 hne, hrk⟩) (fun t ht hm => by
      rw [hcs2] at hm
      unfold lkO
      rw [hcs2, Nat.testBit_mod_two_pow, lkm_mem _ _ t (by omega) hm, decide_eq_true ht]
      rfl) N Pl R Nb q9 hR hq haw
    rw [g2] at h1
    exact h1

theorem dX10_builds_0 : decode cX10_builds 0 = .ok (.aload_n 0, 1) := by decide +kernel
theorem dX10_builds_1 : decode cX10_builds 1 = .ok (.iload_n 1, 1) := by decide +kernel
theorem dX10_builds_2 : decode cX10_builds 2 = .ok (.putfield 393, 3) := by decide +kernel
theorem dX10_builds_5 : decode cX10_builds 5 = .ok (.aload_n 0, 1) := by decide +kernel
theorem dX10_builds_6 : decode cX10_builds 6 = .ok (.iload_n 2, 1) := by decide +kernel
theorem dX10_builds_7 : decode cX10_builds 7 = .ok (.putfield 399, 3) := by decide +kernel
theorem dX10_builds_10 : decode cX10_builds 10 = .ok (.aload_n 0, 1) := by decide +kernel
theorem dX10_builds_11 : decode cX10_builds 11 = .ok (.iload_n 3, 1) := by decide +kernel
theorem dX10_builds_12 : decode cX10_builds 12 = .ok (.putfield 396, 3) := by decide +kernel
theorem dX10_builds_15 : decode cX10_builds 15 = .ok (.aload_n 0, 1) := by decide +kernel
theorem dX10_builds_16 : decode cX10_builds 16 = .ok (.getfield 29, 3) := by decide +kernel
theorem dX10_builds_19 : decode cX10_builds 19 = .ok (.aload_n 0, 1) := by decide +kernel
theorem dX10_builds_20 : decode cX10_builds 20 = .ok (.getfield 99, 3) := by decide +kernel
theorem dX10_builds_23 : decode cX10_builds 23 = .ok (.iconst 1, 1) := by decide +kernel
theorem dX10_builds_24 : decode cX10_builds 24 = .ok (.aload_n 0, 1) := by decide +kernel
theorem dX10_builds_25 : decode cX10_builds 25 = .ok (.getfield 99, 3) := by decide +kernel
theorem dX10_builds_28 : decode cX10_builds 28 = .ok (.ishl, 1) := by decide +kernel
theorem dX10_builds_29 : decode cX10_builds 29 = .ok (.iload_n 1, 1) := by decide +kernel
theorem dX10_builds_30 : decode cX10_builds 30 = .ok (.ifCond .ne 7, 3) := by decide +kernel
theorem dX10_builds_33 : decode cX10_builds 33 = .ok (.iconst 0, 1) := by decide +kernel
theorem dX10_builds_34 : decode cX10_builds 34 = .ok (.goto 6, 3) := by decide +kernel
theorem dX10_builds_37 : decode cX10_builds 37 = .ok (.iconst 1, 1) := by decide +kernel
theorem dX10_builds_38 : decode cX10_builds 38 = .ok (.iload_n 2, 1) := by decide +kernel
theorem dX10_builds_39 : decode cX10_builds 39 = .ok (.ishl, 1) := by decide +kernel
theorem dX10_builds_40 : decode cX10_builds 40 = .ok (.ior, 1) := by decide +kernel
theorem dX10_builds_41 : decode cX10_builds 41 = .ok (.iastore, 1) := by decide +kernel
theorem dX10_builds_42 : decode cX10_builds 42 = .ok (.aload_n 0, 1) := by decide +kernel
theorem dX10_builds_43 : decode cX10_builds 43 = .ok (.aload_n 0, 1) := by decide +kernel
theorem dX10_builds_44 : decode cX10_builds 44 = .ok (.invokevirtual 429, 3) := by decide +kernel
theorem dX10_builds_47 : decode cX10_builds 47 = .ok (.iconst 1, 1) := by decide +kernel
theorem dX10_builds_48 : decode cX10_builds 48 = .ok (.aload_n 0, 1) := by decide +kernel
theorem dX10_builds_49 : decode cX10_builds 49 = .ok (.getfield 99, 3) := by decide +kernel
theorem dX10_builds_52 : decode cX10_builds 52 = .ok (.ishl, 1) := by decide +kernel
theorem dX10_builds_53 : decode cX10_builds 53 = .ok (.ior, 1) := by decide +kernel
theorem dX10_builds_54 : decode cX10_builds 54 = .ok (.iconst 1, 1) := by decide +kernel
theorem dX10_builds_55 : decode cX10_builds 55 = .ok (.iconst 2, 1) := by decide +kernel
theorem dX10_builds_56 : decode cX10_builds 56 = .ok (.invokevirtual 432, 3) := by decide +kernel
theorem dX10_builds_59 : decode cX10_builds 59 = .ok (.ifCond .ne 5, 3) := by decide +kernel
theorem dX10_builds_62 : decode cX10_builds 62 = .ok (.iconst 0, 1) := by decide +kernel
theorem dX10_builds_63 : decode cX10_builds 63 = .ok (.ireturn, 1) := by decide +kernel
theorem dX10_builds_64 : decode cX10_builds 64 = .ok (.aload_n 0, 1) := by decide +kernel
theorem dX10_builds_65 : decode cX10_builds 65 = .ok (.getfield 413, 3) := by decide +kernel
theorem dX10_builds_68 : decode cX10_builds 68 = .ok (.iconst 1, 1) := by decide +kernel
theorem dX10_builds_69 : decode cX10_builds 69 = .ok (.if_icmp .eq 5, 3) := by decide +kernel
theorem dX10_builds_72 : decode cX10_builds 72 = .ok (.iconst 1, 1) := by decide +kernel
theorem dX10_builds_73 : decode cX10_builds 73 = .ok (.ireturn, 1) := by decide +kernel
theorem dX10_builds_74 : decode cX10_builds 74 = .ok (.aload_n 0, 1) := by decide +kernel
theorem dX10_builds_75 : decode cX10_builds 75 = .ok (.getfield 475, 3) := by decide +kernel
theorem dX10_builds_78 : decode cX10_builds 78 = .ok (.ifCond .ne 27, 3) := by decide +kernel
theorem dX10_builds_81 : decode cX10_builds 81 = .ok (.aload_n 0, 1) := by decide +kernel
theorem dX10_builds_82 : decode cX10_builds 82 = .ok (.iload_n 1, 1) := by decide +kernel
theorem dX10_builds_83 : decode cX10_builds 83 = .ok (.ifCond .ne 7, 3) := by decide +kernel
theorem dX10_builds_86 : decode cX10_builds 86 = .ok (.iload_n 3, 1) := by decide +kernel
theorem dX10_builds_87 : decode cX10_builds 87 = .ok (.goto 15, 3) := by decide +kernel
theorem dX10_builds_90 : decode cX10_builds 90 = .ok (.sipush 1000, 3) := by decide +kernel
theorem dX10_builds_93 : decode cX10_builds 93 = .ok (.iload_n 1, 1) := by decide +kernel
theorem dX10_builds_94 : decode cX10_builds 94 = .ok (.imul, 1) := by decide +kernel
theorem dX10_builds_95 : decode cX10_builds 95 = .ok (.bipush 100, 2) := by decide +kernel
theorem dX10_builds_97 : decode cX10_builds 97 = .ok (.iload_n 2, 1) := by decide +kernel
theorem dX10_builds_98 : decode cX10_builds 98 = .ok (.imul, 1) := by decide +kernel
theorem dX10_builds_99 : decode cX10_builds 99 = .ok (.iadd, 1) := by decide +kernel
theorem dX10_builds_100 : decode cX10_builds 100 = .ok (.iload_n 3, 1) := by decide +kernel
theorem dX10_builds_101 : decode cX10_builds 101 = .ok (.iadd, 1) := by decide +kernel
theorem dX10_builds_102 : decode cX10_builds 102 = .ok (.putfield 478, 3) := by decide +kernel
theorem dX10_builds_105 : decode cX10_builds 105 = .ok (.aload_n 0, 1) := by decide +kernel
theorem dX10_builds_106 : decode cX10_builds 106 = .ok (.dup, 1) := by decide +kernel
theorem dX10_builds_107 : decode cX10_builds 107 = .ok (.getfield 475, 3) := by decide +kernel
theorem dX10_builds_110 : decode cX10_builds 110 = .ok (.iconst 1, 1) := by decide +kernel
theorem dX10_builds_111 : decode cX10_builds 111 = .ok (.iadd, 1) := by decide +kernel
theorem dX10_builds_112 : decode cX10_builds 112 = .ok (.putfield 475, 3) := by decide +kernel
theorem dX10_builds_115 : decode cX10_builds 115 = .ok (.iconst 1, 1) := by decide +kernel
theorem dX10_builds_116 : decode cX10_builds 116 = .ok (.ireturn, 1) := by decide +kernel

set_option maxHeartbeats 4000000 in
set_option maxRecDepth 100000 in
theorem c_builds0 (m : Nat) (k c : Nat) (g v : Int32) {I0 : mI} {t : Nat} {T : Nat → Nat} {fp : Int32} {rr : Nat → Int32} {H M : Nat} {un : Bool} {cs : Nat → List Nat} {tx : Nat → List Int32} {e : Lf} {im : Option Lf} {wk : Option (List Nat)} {n : Nat} {kd : mK} {I : mI} {J : mJ} {P : mP} (hC : RR m kd I0 P t T fp rr H M un cs tx e im wk) (hz : okZ t T H M cs e) (hH7 : H < 8) (hb : rbS I0 I m H) (hc : c < 100) (h66 : I m 66 = g) (h67 : I m 67 = v) : Ct yX10_builds cX10_builds 4 (some .boolean) 6 0 0 [.ref m, .int (nI 0), .int (nI 0), .int (nI c)] n kd I J P (fun z n' kd' I' J' P' => z = .inl (some (.int (bz (bSt (some (g, v)) (bR H M un cs e (nr1 H c)) (nI c)).isSome))) ∧ n' = n ∧ kd' = kd ∧ J' = J ∧ P' = P ∧ rbS I0 I' m H ∧ (∀ j, j = 0 → I' m j = I m j) ∧ acR (bSt (some (g, v)) (bR H M un cs e (nr1 H c)) (nI c)) (I' m 66) (I' m 67)) := by
  have hM := hC.1
  have hM20 : 2 ≤ M ∧ M ≤ 20 := hz.2.1.1
  have hlen := bR_len (un := un) (cs := cs) (e := e) (r := (nr1 H c)) hH7 hM20.2
  refine ct_of 0 (by decide +kernel) (Nat.le_of_ble_eq_true rfl) rfl ?_
  by_cases hg : (bR H M un cs e (nr1 H c)).2.2 = true
  · skip
    refine r_aload_n dX10_builds_0 rfl ?_
    refine r_iload_n dX10_builds_1 rfl ?_
    refine r_putI dX10_builds_2 fl_X10_393 rfl rfl (kM_0 hM) ?_
    refine r_aload_n dX10_builds_5 rfl ?_
    refine r_iload_n dX10_builds_6 rfl ?_
    refine r_putI dX10_builds_7 fl_X10_399 rfl rfl (kM_0 hM) ?_
    rw [am_up_s, am_up_up]
    refine r_aload_n dX10_builds_10 rfl ?_
    refine r_iload_n dX10_builds_11 rfl ?_
    refine r_putI dX10_builds_12 fl_X10_396 rfl rfl (kM_0 hM) ?_
    rw [am_up_s, am_up_up]
    have hb1 := ((hb.m (j := 55) (x := nI 0) (by decide)).m (j := 56) (x := nI 0) (by decide)).m (j := 57) (x := nI c) (by decide)
    rw [am_up_s, am_up_s, am_up_up, am_up_up] at hb1
    obtain ⟨I1, hI1⟩ : ∃ X : mI, X = (va_up I m (va_up (va_up (va_up (I m) 55 (nI 0)) 56 (nI 0)) 57 (nI c))) := ⟨_, rfl⟩
    rw [← hI1] at hb1 ⊢
    have f5 : I1 m 55 = nI 0 := by rw [hI1, am_up_s, am_up_n _ _ (by decide), am_up_n _ _ (by decide), am_up_s]
    have f6 : I1 m 56 = nI 0 := by rw [hI1, am_up_s, am_up_n _ _ (by decide), am_up_s]
    have f7 : I1 m 57 = nI c := by rw [hI1, am_up_s, am_up_s]
    have f66 : I1 m 66 = g := by rw [hI1, am_up_s, am_up_n _ _ (by decide), am_up_n _ _ (by decide), am_up_n _ _ (by decide)]; exact h66
    have f67 : I1 m 67 = v := by rw [hI1, am_up_s, am_up_n _ _ (by decide), am_up_n _ _ (by decide), am_up_n _ _ (by decide)]; exact h67
    have f0 : I1 m 0 = I m 0 := by rw [hI1, am_up_s, am_up_n _ _ (by decide), am_up_n _ _ (by decide), am_up_n _ _ (by decide)]
    clear hI1
    refine r_aload_n dX10_builds_15 rfl ?_
    refine r_getR dX10_builds_16 fl_X10_29 rfl (kM_0 hM) (pM_9 hM) ?_
    refine r_aload_n dX10_builds_19 rfl ?_
    refine r_getI dX10_builds_20 fl_X10_99 rfl (kM_0 hM) ?_
    rw [hb1.2.2.2.1.2]
    refine r_iconst (v := nI 1) dX10_builds_23 (by decide) ?_
    refine r_aload_n dX10_builds_24 rfl ?_
    refine r_getI dX10_builds_25 fl_X10_99 rfl (kM_0 hM) ?_
    rw [hb1.2.2.2.1.2]
    refine r_ishl dX10_builds_28 ?_
    rw [sh1_nI H (by omega)]
    refine r_iload_n dX10_builds_29 rfl ?_
    refine r_if_ne (tgt := 37) dX10_builds_30 (by decide) (fun hz => absurd (show _ from rfl) hz) (fun _ => ?_)
    refine r_iconst (v := nI 0) dX10_builds_33 (by decide) ?_
    refine r_goto (tgt := 40) dX10_builds_34 (by decide) ?_
    refine r_ior dX10_builds_40 ?_
    rw [show (nI (2 ^ H) ||| nI 0) = nI (lkm 0 (nr1 H c)) from by rw [lkm_1 hH7 (by omega)]; exact b_ext (fun i hi => by rw [b_or, bt_nI 0 hi, Nat.zero_testBit, Bool.or_false])]
    refine r_iast dX10_builds_41 (aM_9 hM) (nI_in8 8 (by omega) (by decide)) (nI_clamp (by omega)) ?_
    have hb2 := hb1.lk (x := nI (lkm 0 (nr1 H c)))
    obtain ⟨I2, hI2⟩ : ∃ X : mI, X = va_up I1 (m + 6) (va_up (I1 (m + 6)) H (nI (lkm 0 (nr1 H c)))) := ⟨_, rfl⟩
    rw [← hI2] at hb2 ⊢
    have em : I2 m = I1 m := by rw [hI2, am_up_n _ _ (by omega)]
    have e6 : I2 (m + 6) H = nI (lkm 0 (nr1 H c)) := by rw [hI2, am_up_s, am_up_s]
    rw [← em] at f5 f6 f7 f66 f67 f0
    clear hI2
    refine r_aload_n dX10_builds_42 rfl ?_
    refine r_aload_n dX10_builds_43 rfl ?_
    refine r_virtE (c_X10_speaking m (H + 1) hM hb2.2.2.2.1.1 (by omega)) lk_X10_429 mc_X10_speaking dX10_builds_44 (kM_0 hM) (by decide) rfl rfl (Nat.le_of_ble_eq_true rfl) ?_
    rw [hb2.sp (sp_r (by omega) hC.2.2.1 hC.2.2.2.1)]
    refine r_iconst (v := nI 1) dX10_builds_47 (by decide) ?_
    refine r_aload_n dX10_builds_48 rfl ?_
    refine r_getI dX10_builds_49 fl_X10_99 rfl (kM_0 hM) ?_
    rw [hb2.2.2.2.1.2]
    refine r_ishl dX10_builds_52 ?_
    refine r_ior dX10_builds_53 ?_
    rw [or_sh2 (show H < 32 by omega)]
    refine r_iconst (v := nI 1) dX10_builds_54 (by decide) ?_
    refine r_iconst (v := nI 2) dX10_builds_55 (by decide) ?_
    refine r_virt (kc2 := 0) (ks2 := 0) (q_seeksF m (nr1 H c) hC hz hH7 hb2 (Or.inl ⟨c, by omega, rfl, f5, f7⟩) e6) lk_X10_432 mc_X10_seeks dX10_builds_56 (kM_0 hM) (by decide) rfl rfl (Nat.le_of_ble_eq_true rfl) (by decide) (by decide) (fun _ _ _ _ _ _ h => nomatch h.1) ?_
    rintro v4 n4 kd4 I4 J4 P4 ⟨h00, rfl, rfl, rfl, rfl, hfr, hf52⟩
    cases h00
    simp only [Option.toList, List.nil_append, List.cons_append]
    have hb4 := hb2.rf hfr
    have i66 : I4 m 66 = g := (hfr.2 66 (by decide) (by decide)).trans f66
    have i67 : I4 m 67 = v := (hfr.2 67 (by decide) (by decide)).trans f67
    have i0 : I4 m 0 = I m 0 := (hfr.2 0 (by decide) (by decide)).trans f0
    rw [gdR_2 hlen]
    rw [hg]
    refine r_if_ne (tgt := 64) dX10_builds_59 (by decide) (fun hz => absurd (show _ from rfl) hz) (fun _ => ?_)
    refine r_iconst (v := nI 0) dX10_builds_62 (by decide) ?_
    refine r_zret rfl dX10_builds_63 (by first | exact Or.inl rfl | exact Or.inr rfl | assumption) ?_
    rw [bSt_sp hg]
    exact ⟨rfl, rfl, rfl, rfl, rfl, hb4, fun j hj => by rw [hj]; exact i0, trivial⟩
  · by_cases c1 : (bR H M un cs e (nr1 H c)).2.1.length = 1
    · by_cases c2 : g = 0
      · skip
        refine r_aload_n dX10_builds_0 rfl ?_
        refine r_iload_n dX10_builds_1 rfl ?_
        refine r_putI dX10_builds_2 fl_X10_393 rfl rfl (kM_0 hM) ?_
        refine r_aload_n dX10_builds_5 rfl ?_
        refine r_iload_n dX10_builds_6 rfl ?_
        refine r_putI dX10_builds_7 fl_X10_399 rfl rfl (kM_0 hM) ?_
        rw [am_up_s, am_up_up]
        refine r_aload_n dX10_builds_10 rfl ?_
        refine r_iload_n dX10_builds_11 rfl ?_
        refine r_putI dX10_builds_12 fl_X10_396 rfl rfl (kM_0 hM) ?_
        rw [am_up_s, am_up_up]
        have hb1 := ((hb.m (j := 55) (x := nI 0) (by decide)).m (j := 56) (x := nI 0) (by decide)).m (j := 57) (x := nI c) (by decide)
        rw [am_up_s, am_up_s, am_up_up, am_up_up] at hb1
        obtain ⟨I1, hI1⟩ : ∃ X : mI, X = (va_up I m (va_up (va_up (va_up (I m) 55 (nI 0)) 56 (nI 0)) 57 (nI c))) := ⟨_, rfl⟩
        rw [← hI1] at hb1 ⊢
        have f5 : I1 m 55 = nI 0 := by rw [hI1, am_up_s, am_up_n _ _ (by decide), am_up_n _ _ (by decide), am_up_s]
        have f6 : I1 m 56 = nI 0 := by rw [hI1, am_up_s, am_up_n _ _ (by decide), am_up_s]
        have f7 : I1 m 57 = nI c := by rw [hI1, am_up_s, am_up_s]
        have f66 : I1 m 66 = g := by rw [hI1, am_up_s, am_up_n _ _ (by decide), am_up_n _ _ (by decide), am_up_n _ _ (by decide)]; exact h66
        have f67 : I1 m 67 = v := by rw [hI1, am_up_s, am_up_n _ _ (by decide), am_up_n _ _ (by decide), am_up_n _ _ (by decide)]; exact h67
        have f0 : I1 m 0 = I m 0 := by rw [hI1, am_up_s, am_up_n _ _ (by decide), am_up_n _ _ (by decide), am_up_n _ _ (by decide)]
        clear hI1
        refine r_aload_n dX10_builds_15 rfl ?_
        refine r_getR dX10_builds_16 fl_X10_29 rfl (kM_0 hM) (pM_9 hM) ?_
        refine r_aload_n dX10_builds_19 rfl ?_
        refine r_getI dX10_builds_20 fl_X10_99 rfl (kM_0 hM) ?_
        rw [hb1.2.2.2.1.2]
        refine r_iconst (v := nI 1) dX10_builds_23 (by decide) ?_
        refine r_aload_n dX10_builds_24 rfl ?_
        refine r_getI dX10_builds_25 fl_X10_99 rfl (kM_0 hM) ?_
        rw [hb1.2.2.2.1.2]
        refine r_ishl dX10_builds_28 ?_
        rw [sh1_nI H (by omega)]
        refine r_iload_n dX10_builds_29 rfl ?_
        refine r_if_ne (tgt := 37) dX10_builds_30 (by decide) (fun hz => absurd (show _ from rfl) hz) (fun _ => ?_)
        refine r_iconst (v := nI 0) dX10_builds_33 (by decide) ?_
        refine r_goto (tgt := 40) dX10_builds_34 (by decide) ?_
        refine r_ior dX10_builds_40 ?_
        rw [show (nI (2 ^ H) ||| nI 0) = nI (lkm 0 (nr1 H c)) from by rw [lkm_1 hH7 (by omega)]; exact b_ext (fun i hi => by rw [b_or, bt_nI 0 hi, Nat.zero_testBit, Bool.or_false])]
        refine r_iast dX10_builds_41 (aM_9 hM) (nI_in8 8 (by omega) (by decide)) (nI_clamp (by omega)) ?_
        have hb2 := hb1.lk (x := nI (lkm 0 (nr1 H c)))
        obtain ⟨I2, hI2⟩ : ∃ X : mI, X = va_up I1 (m + 6) (va_up (I1 (m + 6)) H (nI (lkm 0 (nr1 H c)))) := ⟨_, rfl⟩
        rw [← hI2] at hb2 ⊢
        have em : I2 m = I1 m := by rw [hI2, am_up_n _ _ (by omega)]
        have e6 : I2 (m + 6) H = nI (lkm 0 (nr1 H c)) := by rw [hI2, am_up_s, am_up_s]
        rw [← em] at f5 f6 f7 f66 f67 f0
        clear hI2
        refine r_aload_n dX10_builds_42 rfl ?_
        refine r_aload_n dX10_builds_43 rfl ?_
        refine r_virtE (c_X10_speaking m (H + 1) hM hb2.2.2.2.1.1 (by omega)) lk_X10_429 mc_X10_speaking dX10_builds_44 (kM_0 hM) (by decide) rfl rfl (Nat.le_of_ble_eq_true rfl) ?_
        rw [hb2.sp (sp_r (by omega) hC.2.2.1 hC.2.2.2.1)]
        refine r_iconst (v := nI 1) dX10_builds_47 (by decide) ?_
        refine r_aload_n dX10_builds_48 rfl ?_
        refine r_getI dX10_builds_49 fl_X10_99 rfl (kM_0 hM) ?_
        rw [hb2.2.2.2.1.2]
        refine r_ishl dX10_builds_52 ?_
        refine r_ior dX10_builds_53 ?_
        rw [or_sh2 (show H < 32 by omega)]
        refine r_iconst (v := nI 1) dX10_builds_54 (by decide) ?_
        refine r_iconst (v := nI 2) dX10_builds_55 (by decide) ?_
        refine r_virt (kc2 := 0) (ks2 := 0) (q_seeksF m (nr1 H c) hC hz hH7 hb2 (Or.inl ⟨c, by omega, rfl, f5, f7⟩) e6) lk_X10_432 mc_X10_seeks dX10_builds_56 (kM_0 hM) (by decide) rfl rfl (Nat.le_of_ble_eq_true rfl) (by decide) (by decide) (fun _ _ _ _ _ _ h => nomatch h.1) ?_
        rintro v4 n4 kd4 I4 J4 P4 ⟨h00, rfl, rfl, rfl, rfl, hfr, hf52⟩
        cases h00
        simp only [Option.toList, List.nil_append, List.cons_append]
        have hb4 := hb2.rf hfr
        have i66 : I4 m 66 = g := (hfr.2 66 (by decide) (by decide)).trans f66
        have i67 : I4 m 67 = v := (hfr.2 67 (by decide) (by decide)).trans f67
        have i0 : I4 m 0 = I m 0 := (hfr.2 0 (by decide) (by decide)).trans f0
        rw [gdR_2 hlen]
        rw [eq_false_of_ne_true hg]
        refine r_if_ne (tgt := 64) dX10_builds_59 (by decide) (fun _ => ?_) (fun hz => absurd hz (show ¬ _ from (by decide)))
        refine r_aload_n dX10_builds_64 rfl ?_
        refine r_getI dX10_builds_65 fl_X10_413 rfl (kM_0 hM) ?_
        rw [hf52]
        refine r_iconst (v := nI 1) dX10_builds_68 (by decide) ?_
        refine r_icmp_eq (tgt := 74) dX10_builds_69 (by decide) (fun _ => ?_) (fun hz => absurd (show _ from (by rw [c1])) hz)
        refine r_aload_n dX10_builds_74 rfl ?_
        refine r_getI dX10_builds_75 fl_X10_475 rfl (kM_0 hM) ?_
        rw [i66]
        refine r_if_ne (tgt := 105) dX10_builds_78 (by decide) (fun hz => absurd (show _ from c2) hz) (fun _ => ?_)
        refine r_aload_n dX10_builds_81 rfl ?_
        refine r_iload_n dX10_builds_82 rfl ?_
        refine r_if_ne (tgt := 90) dX10_builds_83 (by decide) (fun hz => absurd (show _ from rfl) hz) (fun _ => ?_)
        refine r_iload_n dX10_builds_86 rfl ?_
        refine r_goto (tgt := 102) dX10_builds_87 (by decide) ?_
        refine r_putI dX10_builds_102 fl_X10_478 rfl rfl (kM_0 hM) ?_
        have hb5 := hb4.m (j := 67) (x := nI c) (by decide)
        obtain ⟨I5, hI5⟩ : ∃ X : mI, X = va_up I4 m (va_up (I4 m) 67 (nI c)) := ⟨_, rfl⟩
        rw [← hI5] at hb5 ⊢
        have j66 : I5 m 66 = g := by rw [hI5, am_up_s, am_up_n _ _ (by decide)]; exact i66
        have j67 : I5 m 67 = nI c := by rw [hI5, am_up_s, am_up_s]
        have j0 : I5 m 0 = I m 0 := by rw [hI5, am_up_s, am_up_n _ _ (by decide)]; exact i0
        clear hI5
        refine r_aload_n dX10_builds_105 rfl ?_
        refine r_dup dX10_builds_106 rfl ?_
        refine r_getI dX10_builds_107 fl_X10_475 rfl (kM_0 hM) ?_
        rw [j66]
        refine r_iconst (v := nI 1) dX10_builds_110 (by decide) ?_
        refine r_iadd dX10_builds_111 ?_
        refine r_putI dX10_builds_112 fl_X10_475 rfl rfl (kM_0 hM) ?_
        refine r_iconst (v := nI 1) dX10_builds_115 (by decide) ?_
        refine r_zret rfl dX10_builds_116 (by first | exact Or.inl rfl | exact Or.inr rfl | assumption) ?_
        rw [bSt_1 hg c1]
        refine ⟨rfl, rfl, rfl, rfl, rfl, hb5.m (j := 66) (by decide), fun j hj => ?_, ?_, ?_⟩
        · rw [am_up_s, am_up_n _ _ (by omega), hj]; exact j0
        · rw [am_up_s, am_up_s]
        · rw [am_up_s, am_up_n _ _ (by decide), if_pos c2, j67]
      · skip
        refine r_aload_n dX10_builds_0 rfl ?_
        refine r_iload_n dX10_builds_1 rfl ?_
        refine r_putI dX10_builds_2 fl_X10_393 rfl rfl (kM_0 hM) ?_
        refine r_aload_n dX10_builds_5 rfl ?_
        refine r_iload_n dX10_builds_6 rfl ?_
        refine r_putI dX10_builds_7 fl_X10_399 rfl rfl (kM_0 hM) ?_
        rw [am_up_s, am_up_up]
        refine r_aload_n dX10_builds_10 rfl ?_
        refine r_iload_n dX10_builds_11 rfl ?_
        refine r_putI dX10_builds_12 fl_X10_396 rfl rfl (kM_0 hM) ?_
        rw [am_up_s, am_up_up]
        have hb1 := ((hb.m (j := 55) (x := nI 0) (by decide)).m (j := 56) (x := nI 0) (by decide)).m (j := 57) (x := nI c) (by decide)
        rw [am_up_s, am_up_s, am_up_up, am_up_up] at hb1
        obtain ⟨I1, hI1⟩ : ∃ X : mI, X = (va_up I m (va_up (va_up (va_up (I m) 55 (nI 0)) 56 (nI 0)) 57 (nI c))) := ⟨_, rfl⟩
        rw [← hI1] at hb1 ⊢
        have f5 : I1 m 55 = nI 0 := by rw [hI1, am_up_s, am_up_n _ _ (by decide), am_up_n _ _ (by decide), am_up_s]
        have f6 : I1 m 56 = nI 0 := by rw [hI1, am_up_s, am_up_n _ _ (by decide), am_up_s]
        have f7 : I1 m 57 = nI c := by rw [hI1, am_up_s, am_up_s]
        have f66 : I1 m 66 = g := by rw [hI1, am_up_s, am_up_n _ _ (by decide), am_up_n _ _ (by decide), am_up_n _ _ (by decide)]; exact h66
        have f67 : I1 m 67 = v := by rw [hI1, am_up_s, am_up_n _ _ (by decide), am_up_n _ _ (by decide), am_up_n _ _ (by decide)]; exact h67
        have f0 : I1 m 0 = I m 0 := by rw [hI1, am_up_s, am_up_n _ _ (by decide), am_up_n _ _ (by decide), am_up_n _ _ (by decide)]
        clear hI1
        refine r_aload_n dX10_builds_15 rfl ?_
        refine r_getR dX10_builds_16 fl_X10_29 rfl (kM_0 hM) (pM_9 hM) ?_
        refine r_aload_n dX10_builds_19 rfl ?_
        refine r_getI dX10_builds_20 fl_X10_99 rfl (kM_0 hM) ?_
        rw [hb1.2.2.2.1.2]
        refine r_iconst (v := nI 1) dX10_builds_23 (by decide) ?_
        refine r_aload_n dX10_builds_24 rfl ?_
        refine r_getI dX10_builds_25 fl_X10_99 rfl (kM_0 hM) ?_
        rw [hb1.2.2.2.1.2]
        refine r_ishl dX10_builds_28 ?_
        rw [sh1_nI H (by omega)]
        refine r_iload_n dX10_builds_29 rfl ?_
        refine r_if_ne (tgt := 37) dX10_builds_30 (by decide) (fun hz => absurd (show _ from rfl) hz) (fun _ => ?_)
        refine r_iconst (v := nI 0) dX10_builds_33 (by decide) ?_
        refine r_goto (tgt := 40) dX10_builds_34 (by decide) ?_
        refine r_ior dX10_builds_40 ?_
        rw [show (nI (2 ^ H) ||| nI 0) = nI (lkm 0 (nr1 H c)) from by rw [lkm_1 hH7 (by omega)]; exact b_ext (fun i hi => by rw [b_or, bt_nI 0 hi, Nat.zero_testBit, Bool.or_false])]
        refine r_iast dX10_builds_41 (aM_9 hM) (nI_in8 8 (by omega) (by decide)) (nI_clamp (by omega)) ?_
        have hb2 := hb1.lk (x := nI (lkm 0 (nr1 H c)))
        obtain ⟨I2, hI2⟩ : ∃ X : mI, X = va_up I1 (m + 6) (va_up (I1 (m + 6)) H (nI (lkm 0 (nr1 H c)))) := ⟨_, rfl⟩
        rw [← hI2] at hb2 ⊢
        have em : I2 m = I1 m := by rw [hI2, am_up_n _ _ (by omega)]
        have e6 : I2 (m + 6) H = nI (lkm 0 (nr1 H c)) := by rw [hI2, am_up_s, am_up_s]
        rw [← em] at f5 f6 f7 f66 f67 f0
        clear hI2
        refine r_aload_n dX10_builds_42 rfl ?_
        refine r_aload_n dX10_builds_43 rfl ?_
        refine r_virtE (c_X10_speaking m (H + 1) hM hb2.2.2.2.1.1 (by omega)) lk_X10_429 mc_X10_speaking dX10_builds_44 (kM_0 hM) (by decide) rfl rfl (Nat.le_of_ble_eq_true rfl) ?_
        rw [hb2.sp (sp_r (by omega) hC.2.2.1 hC.2.2.2.1)]
        refine r_iconst (v := nI 1) dX10_builds_47 (by decide) ?_
        refine r_aload_n dX10_builds_48 rfl ?_
        refine r_getI dX10_builds_49 fl_X10_99 rfl (kM_0 hM) ?_
        rw [hb2.2.2.2.1.2]
        refine r_ishl dX10_builds_52 ?_
        refine r_ior dX10_builds_53 ?_
        rw [or_sh2 (show H < 32 by omega)]
        refine r_iconst (v := nI 1) dX10_builds_54 (by decide) ?_
        refine r_iconst (v := nI 2) dX10_builds_55 (by decide) ?_
        refine r_virt (kc2 := 0) (ks2 := 0) (q_seeksF m (nr1 H c) hC hz hH7 hb2 (Or.inl ⟨c, by omega, rfl, f5, f7⟩) e6) lk_X10_432 mc_X10_seeks dX10_builds_56 (kM_0 hM) (by decide) rfl rfl (Nat.le_of_ble_eq_true rfl) (by decide) (by decide) (fun _ _ _ _ _ _ h => nomatch h.1) ?_
        rintro v4 n4 kd4 I4 J4 P4 ⟨h00, rfl, rfl, rfl, rfl, hfr, hf52⟩
        cases h00
        simp only [Option.toList, List.nil_append, List.cons_append]
        have hb4 := hb2.rf hfr
        have i66 : I4 m 66 = g := (hfr.2 66 (by decide) (by decide)).trans f66
        have i67 : I4 m 67 = v := (hfr.2 67 (by decide) (by decide)).trans f67
        have i0 : I4 m 0 = I m 0 := (hfr.2 0 (by decide) (by decide)).trans f0
        rw [gdR_2 hlen]
        rw [eq_false_of_ne_true hg]
        refine r_if_ne (tgt := 64) dX10_builds_59 (by decide) (fun _ => ?_) (fun hz => absurd hz (show ¬ _ from (by decide)))
        refine r_aload_n dX10_builds_64 rfl ?_
        refine r_getI dX10_builds_65 fl_X10_413 rfl (kM_0 hM) ?_
        rw [hf52]
        refine r_iconst (v := nI 1) dX10_builds_68 (by decide) ?_
        refine r_icmp_eq (tgt := 74) dX10_builds_69 (by decide) (fun _ => ?_) (fun hz => absurd (show _ from (by rw [c1])) hz)
        refine r_aload_n dX10_builds_74 rfl ?_
        refine r_getI dX10_builds_75 fl_X10_475 rfl (kM_0 hM) ?_
        rw [i66]
        refine r_if_ne (tgt := 105) dX10_builds_78 (by decide) (fun _ => ?_) (fun hz => absurd hz (show ¬ _ from c2))
        refine r_aload_n dX10_builds_105 rfl ?_
        refine r_dup dX10_builds_106 rfl ?_
        refine r_getI dX10_builds_107 fl_X10_475 rfl (kM_0 hM) ?_
        rw [i66]
        refine r_iconst (v := nI 1) dX10_builds_110 (by decide) ?_
        refine r_iadd dX10_builds_111 ?_
        refine r_putI dX10_builds_112 fl_X10_475 rfl rfl (kM_0 hM) ?_
        refine r_iconst (v := nI 1) dX10_builds_115 (by decide) ?_
        refine r_zret rfl dX10_builds_116 (by first | exact Or.inl rfl | exact Or.inr rfl | assumption) ?_
        rw [bSt_1 hg c1]
        refine ⟨rfl, rfl, rfl, rfl, rfl, hb4.m (j := 66) (by decide), fun j hj => ?_, ?_, ?_⟩
        · rw [am_up_s, am_up_n _ _ (by omega), hj]; exact i0
        · rw [am_up_s, am_up_s]
        · rw [am_up_s, am_up_n _ _ (by decide), if_neg c2, i67]
    · skip
      refine r_aload_n dX10_builds_0 rfl ?_
      refine r_iload_n dX10_builds_1 rfl ?_
      refine r_putI dX10_builds_2 fl_X10_393 rfl rfl (kM_0 hM) ?_
      refine r_aload_n dX10_builds_5 rfl ?_
      refine r_iload_n dX10_builds_6 rfl ?_
      refine r_putI dX10_builds_7 fl_X10_399 rfl rfl (kM_0 hM) ?_
      rw [am_up_s, am_up_up]
      refine r_aload_n dX10_builds_10 rfl ?_
      refine r_iload_n dX10_builds_11 rfl ?_
      refine r_putI dX10_builds_12 fl_X10_396 rfl rfl (kM_0 hM) ?_
      rw [am_up_s, am_up_up]
      have hb1 := ((hb.m (j := 55) (x := nI 0) (by decide)).m (j := 56) (x := nI 0) (by decide)).m (j := 57) (x := nI c) (by decide)
      rw [am_up_s, am_up_s, am_up_up, am_up_up] at hb1
      obtain ⟨I1, hI1⟩ : ∃ X : mI, X = (va_up I m (va_up (va_up (va_up (I m) 55 (nI 0)) 56 (nI 0)) 57 (nI c))) := ⟨_, rfl⟩
      rw [← hI1] at hb1 ⊢
      have f5 : I1 m 55 = nI 0 := by rw [hI1, am_up_s, am_up_n _ _ (by decide), am_up_n _ _ (by decide), am_up_s]
      have f6 : I1 m 56 = nI 0 := by rw [hI1, am_up_s, am_up_n _ _ (by decide), am_up_s]
      have f7 : I1 m 57 = nI c := by rw [hI1, am_up_s, am_up_s]
      have f66 : I1 m 66 = g := by rw [hI1, am_up_s, am_up_n _ _ (by decide), am_up_n _ _ (by decide), am_up_n _ _ (by decide)]; exact h66
      have f67 : I1 m 67 = v := by rw [hI1, am_up_s, am_up_n _ _ (by decide), am_up_n _ _ (by decide), am_up_n _ _ (by decide)]; exact h67
      have f0 : I1 m 0 = I m 0 := by rw [hI1, am_up_s, am_up_n _ _ (by decide), am_up_n _ _ (by decide), am_up_n _ _ (by decide)]
      clear hI1
      refine r_aload_n dX10_builds_15 rfl ?_
      refine r_getR dX10_builds_16 fl_X10_29 rfl (kM_0 hM) (pM_9 hM) ?_
      refine r_aload_n dX10_builds_19 rfl ?_
      refine r_getI dX10_builds_20 fl_X10_99 rfl (kM_0 hM) ?_
      rw [hb1.2.2.2.1.2]
      refine r_iconst (v := nI 1) dX10_builds_23 (by decide) ?_
      refine r_aload_n dX10_builds_24 rfl ?_
      refine r_getI dX10_builds_25 fl_X10_99 rfl (kM_0 hM) ?_
      rw [hb1.2.2.2.1.2]
      refine r_ishl dX10_builds_28 ?_
      rw [sh1_nI H (by omega)]
      refine r_iload_n dX10_builds_29 rfl ?_
      refine r_if_ne (tgt := 37) dX10_builds_30 (by decide) (fun hz => absurd (show _ from rfl) hz) (fun _ => ?_)
      refine r_iconst (v := nI 0) dX10_builds_33 (by decide) ?_
      refine r_goto (tgt := 40) dX10_builds_34 (by decide) ?_
      refine r_ior dX10_builds_40 ?_
      rw [show (nI (2 ^ H) ||| nI 0) = nI (lkm 0 (nr1 H c)) from by rw [lkm_1 hH7 (by omega)]; exact b_ext (fun i hi => by rw [b_or, bt_nI 0 hi, Nat.zero_testBit, Bool.or_false])]
      refine r_iast dX10_builds_41 (aM_9 hM) (nI_in8 8 (by omega) (by decide)) (nI_clamp (by omega)) ?_
      have hb2 := hb1.lk (x := nI (lkm 0 (nr1 H c)))
      obtain ⟨I2, hI2⟩ : ∃ X : mI, X = va_up I1 (m + 6) (va_up (I1 (m + 6)) H (nI (lkm 0 (nr1 H c)))) := ⟨_, rfl⟩
      rw [← hI2] at hb2 ⊢
      have em : I2 m = I1 m := by rw [hI2, am_up_n _ _ (by omega)]
      have e6 : I2 (m + 6) H = nI (lkm 0 (nr1 H c)) := by rw [hI2, am_up_s, am_up_s]
      rw [← em] at f5 f6 f7 f66 f67 f0
      clear hI2
      refine r_aload_n dX10_builds_42 rfl ?_
      refine r_aload_n dX10_builds_43 rfl ?_
      refine r_virtE (c_X10_speaking m (H + 1) hM hb2.2.2.2.1.1 (by omega)) lk_X10_429 mc_X10_speaking dX10_builds_44 (kM_0 hM) (by decide) rfl rfl (Nat.le_of_ble_eq_true rfl) ?_
      rw [hb2.sp (sp_r (by omega) hC.2.2.1 hC.2.2.2.1)]
      refine r_iconst (v := nI 1) dX10_builds_47 (by decide) ?_
      refine r_aload_n dX10_builds_48 rfl ?_
      refine r_getI dX10_builds_49 fl_X10_99 rfl (kM_0 hM) ?_
      rw [hb2.2.2.2.1.2]
      refine r_ishl dX10_builds_52 ?_
      refine r_ior dX10_builds_53 ?_
      rw [or_sh2 (show H < 32 by omega)]
      refine r_iconst (v := nI 1) dX10_builds_54 (by decide) ?_
      refine r_iconst (v := nI 2) dX10_builds_55 (by decide) ?_
      refine r_virt (kc2 := 0) (ks2 := 0) (q_seeksF m (nr1 H c) hC hz hH7 hb2 (Or.inl ⟨c, by omega, rfl, f5, f7⟩) e6) lk_X10_432 mc_X10_seeks dX10_builds_56 (kM_0 hM) (by decide) rfl rfl (Nat.le_of_ble_eq_true rfl) (by decide) (by decide) (fun _ _ _ _ _ _ h => nomatch h.1) ?_
      rintro v4 n4 kd4 I4 J4 P4 ⟨h00, rfl, rfl, rfl, rfl, hfr, hf52⟩
      cases h00
      simp only [Option.toList, List.nil_append, List.cons_append]
      have hb4 := hb2.rf hfr
      have i66 : I4 m 66 = g := (hfr.2 66 (by decide) (by decide)).trans f66
      have i67 : I4 m 67 = v := (hfr.2 67 (by decide) (by decide)).trans f67
      have i0 : I4 m 0 = I m 0 := (hfr.2 0 (by decide) (by decide)).trans f0
      rw [gdR_2 hlen]
      rw [eq_false_of_ne_true hg]
      refine r_if_ne (tgt := 64) dX10_builds_59 (by decide) (fun _ => ?_) (fun hz => absurd hz (show ¬ _ from (by decide)))
      refine r_aload_n dX10_builds_64 rfl ?_
      refine r_getI dX10_builds_65 fl_X10_413 rfl (kM_0 hM) ?_
      rw [hf52]
      refine r_iconst (v := nI 1) dX10_builds_68 (by decide) ?_
      refine r_icmp_eq (tgt := 74) dX10_builds_69 (by decide) (fun hz => absurd hz (show ¬ _ from (fun z => c1 ((nI_eq (by omega) (by decide)).mp z)))) (fun _ => ?_)
      refine r_iconst (v := nI 1) dX10_builds_72 (by decide) ?_
      refine r_zret rfl dX10_builds_73 (by first | exact Or.inl rfl | exact Or.inr rfl | assumption) ?_
      rw [bSt_2 hg c1]
      exact ⟨rfl, rfl, rfl, rfl, rfl, hb4, fun j hj => by rw [hj]; exact i0, i66, i67⟩

set_option maxHeartbeats 4000000 in
set_option maxRecDepth 100000 in
theorem c_builds1 (m : Nat) (k c : Nat) (g v : Int32) {I0 : mI} {t : Nat} {T : Nat → Nat} {fp : Int32} {rr : Nat → Int32} {H M : Nat} {un : Bool} {cs : Nat → List Nat} {tx : Nat → List Int32} {e : Lf} {im : Option Lf} {wk : Option (List Nat)} {n : Nat} {kd : mK} {I : mI} {J : mJ} {P : mP} (hC : RR m kd I0 P t T fp rr H M un cs tx e im wk) (hz : okZ t T H M cs e) (hH7 : H < 8) (hb : rbS I0 I m H) (hk : k < H) (hc : c < 100) (h66 : I m 66 = g) (h67 : I m 67 = v) : Ct yX10_builds cX10_builds 4 (some .boolean) 6 0 0 [.ref m, .int (nI 1), .int (nI k), .int (nI c)] n kd I J P (fun z n' kd' I' J' P' => z = .inl (some (.int (bz (bSt (some (g, v)) (bR H M un cs e (nr2 H k c 20004)) (nI (1000 * 1 + 100 * k + c))).isSome))) ∧ n' = n ∧ kd' = kd ∧ J' = J ∧ P' = P ∧ rbS I0 I' m H ∧ (∀ j, j = 0 → I' m j = I m j) ∧ acR (bSt (some (g, v)) (bR H M un cs e (nr2 H k c 20004)) (nI (1000 * 1 + 100 * k + c))) (I' m 66) (I' m 67)) := by
  have hM := hC.1
  have hM20 : 2 ≤ M ∧ M ≤ 20 := hz.2.1.1
  have hlen := bR_len (un := un) (cs := cs) (e := e) (r := (nr2 H k c 20004)) hH7 hM20.2
  refine ct_of 0 (by decide +kernel) (Nat.le_of_ble_eq_true rfl) rfl ?_
  by_cases hg : (bR H M un cs e (nr2 H k c 20004)).2.2 = true
  · skip
    refine r_aload_n dX10_builds_0 rfl ?_
    refine r_iload_n dX10_builds_1 rfl ?_
    refine r_putI dX10_builds_2 fl_X10_393 rfl rfl (kM_0 hM) ?_
    refine r_aload_n dX10_builds_5 rfl ?_
    refine r_iload_n dX10_builds_6 rfl ?_
    refine r_putI dX10_builds_7 fl_X10_399 rfl rfl (kM_0 hM) ?_
    rw [am_up_s, am_up_up]
    refine r_aload_n dX10_builds_10 rfl ?_
    refine r_iload_n dX10_builds_11 rfl ?_
    refine r_putI dX10_builds_12 fl_X10_396 rfl rfl (kM_0 hM) ?_
    rw [am_up_s, am_up_up]
    have hb1 := ((hb.m (j := 55) (x := nI 1) (by decide)).m (j := 56) (x := nI k) (by decide)).m (j := 57) (x := nI c) (by decide)
    rw [am_up_s, am_up_s, am_up_up, am_up_up] at hb1
    obtain ⟨I1, hI1⟩ : ∃ X : mI, X = (va_up I m (va_up (va_up (va_up (I m) 55 (nI 1)) 56 (nI k)) 57 (nI c))) := ⟨_, rfl⟩
    rw [← hI1] at hb1 ⊢
    have f5 : I1 m 55 = nI 1 := by rw [hI1, am_up_s, am_up_n _ _ (by decide), am_up_n _ _ (by decide), am_up_s]
    have f6 : I1 m 56 = nI k := by rw [hI1, am_up_s, am_up_n _ _ (by decide), am_up_s]
    have f7 : I1 m 57 = nI c := by rw [hI1, am_up_s, am_up_s]
    have f66 : I1 m 66 = g := by rw [hI1, am_up_s, am_up_n _ _ (by decide), am_up_n _ _ (by decide), am_up_n _ _ (by decide)]; exact h66
    have f67 : I1 m 67 = v := by rw [hI1, am_up_s, am_up_n _ _ (by decide), am_up_n _ _ (by decide), am_up_n _ _ (by decide)]; exact h67
    have f0 : I1 m 0 = I m 0 := by rw [hI1, am_up_s, am_up_n _ _ (by decide), am_up_n _ _ (by decide), am_up_n _ _ (by decide)]
    clear hI1
    refine r_aload_n dX10_builds_15 rfl ?_
    refine r_getR dX10_builds_16 fl_X10_29 rfl (kM_0 hM) (pM_9 hM) ?_
    refine r_aload_n dX10_builds_19 rfl ?_
    refine r_getI dX10_builds_20 fl_X10_99 rfl (kM_0 hM) ?_
    rw [hb1.2.2.2.1.2]
    refine r_iconst (v := nI 1) dX10_builds_23 (by decide) ?_
    refine r_aload_n dX10_builds_24 rfl ?_
    refine r_getI dX10_builds_25 fl_X10_99 rfl (kM_0 hM) ?_
    rw [hb1.2.2.2.1.2]
    refine r_ishl dX10_builds_28 ?_
    rw [sh1_nI H (by omega)]
    refine r_iload_n dX10_builds_29 rfl ?_
    refine r_if_ne (tgt := 37) dX10_builds_30 (by decide) (fun _ => ?_) (fun hz => absurd hz (show ¬ _ from (by decide)))
    refine r_iconst (v := nI 1) dX10_builds_37 (by decide) ?_
    refine r_iload_n dX10_builds_38 rfl ?_
    refine r_ishl dX10_builds_39 ?_
    refine r_ior dX10_builds_40 ?_
    rw [show (nI (2 ^ H) ||| (nI 1 <<< (nI k &&& 31))) = nI (lkm 0 (nr2 H k c 20004)) from by rw [or_sh2 (by omega), lkm_2 hH7 hk (by omega) (by decide)]]
    refine r_iast dX10_builds_41 (aM_9 hM) (nI_in8 8 (by omega) (by decide)) (nI_clamp (by omega)) ?_
    have hb2 := hb1.lk (x := nI (lkm 0 (nr2 H k c 20004)))
    obtain ⟨I2, hI2⟩ : ∃ X : mI, X = va_up I1 (m + 6) (va_up (I1 (m + 6)) H (nI (lkm 0 (nr2 H k c 20004)))) := ⟨_, rfl⟩
    rw [← hI2] at hb2 ⊢
    have em : I2 m = I1 m := by rw [hI2, am_up_n _ _ (by omega)]
    have e6 : I2 (m + 6) H = nI (lkm 0 (nr2 H k c 20004)) := by rw [hI2, am_up_s, am_up_s]
    rw [← em] at f5 f6 f7 f66 f67 f0
    clear hI2
    refine r_aload_n dX10_builds_42 rfl ?_
    refine r_aload_n dX10_builds_43 rfl ?_
    refine r_virtE (c_X10_speaking m (H + 1) hM hb2.2.2.2.1.1 (by omega)) lk_X10_429 mc_X10_speaking dX10_builds_44 (kM_0 hM) (by decide) rfl rfl (Nat.le_of_ble_eq_true rfl) ?_
    rw [hb2.sp (sp_r (by omega) hC.2.2.1 hC.2.2.2.1)]
    refine r_iconst (v := nI 1) dX10_builds_47 (by decide) ?_
    refine r_aload_n dX10_builds_48 rfl ?_
    refine r_getI dX10_builds_49 fl_X10_99 rfl (kM_0 hM) ?_
    rw [hb2.2.2.2.1.2]
    refine r_ishl dX10_builds_52 ?_
    refine r_ior dX10_builds_53 ?_
    rw [or_sh2 (show H < 32 by omega)]
    refine r_iconst (v := nI 1) dX10_builds_54 (by decide) ?_
    refine r_iconst (v := nI 2) dX10_builds_55 (by decide) ?_
    refine r_virt (kc2 := 0) (ks2 := 0) (q_seeksF m (nr2 H k c 20004) hC hz hH7 hb2 (Or.inr ⟨k, c, 20004, hk, by omega, rfl, f6, f7, Or.inl ⟨rfl, f5⟩⟩) e6) lk_X10_432 mc_X10_seeks dX10_builds_56 (kM_0 hM) (by decide) rfl rfl (Nat.le_of_ble_eq_true rfl) (by decide) (by decide) (fun _ _ _ _ _ _ h => nomatch h.1) ?_
    rintro v4 n4 kd4 I4 J4 P4 ⟨h00, rfl, rfl, rfl, rfl, hfr, hf52⟩
    cases h00
    simp only [Option.toList, List.nil_append, List.cons_append]
    have hb4 := hb2.rf hfr
    have i66 : I4 m 66 = g := (hfr.2 66 (by decide) (by decide)).trans f66
    have i67 : I4 m 67 = v := (hfr.2 67 (by decide) (by decide)).trans f67
    have i0 : I4 m 0 = I m 0 := (hfr.2 0 (by decide) (by decide)).trans f0
    rw [gdR_2 hlen]
    rw [hg]
    refine r_if_ne (tgt := 64) dX10_builds_59 (by decide) (fun hz => absurd (show _ from rfl) hz) (fun _ => ?_)
    refine r_iconst (v := nI 0) dX10_builds_62 (by decide) ?_
    refine r_zret rfl dX10_builds_63 (by first | exact Or.inl rfl | exact Or.inr rfl | assumption) ?_
    rw [bSt_sp hg]
    exact ⟨rfl, rfl, rfl, rfl, rfl, hb4, fun j hj => by rw [hj]; exact i0, trivial⟩
  · by_cases c1 : (bR H M un cs e (nr2 H k c 20004)).2.1.length = 1
    · by_cases c2 : g = 0
      · skip
        refine r_aload_n dX10_builds_0 rfl ?_
        refine r_iload_n dX10_builds_1 rfl ?_
        refine r_putI dX10_builds_2 fl_X10_393 rfl rfl (kM_0 hM) ?_
        refine r_aload_n dX10_builds_5 rfl ?_
        refine r_iload_n dX10_builds_6 rfl ?_
        refine r_putI dX10_builds_7 fl_X10_399 rfl rfl (kM_0 hM) ?_
        rw [am_up_s, am_up_up]
        refine r_aload_n dX10_builds_10 rfl ?_
        refine r_iload_n dX10_builds_11 rfl ?_
        refine r_putI dX10_builds_12 fl_X10_396 rfl rfl (kM_0 hM) ?_
        rw [am_up_s, am_up_up]
        have hb1 := ((hb.m (j := 55) (x := nI 1) (by decide)).m (j := 56) (x := nI k) (by decide)).m (j := 57) (x := nI c) (by decide)
        rw [am_up_s, am_up_s, am_up_up, am_up_up] at hb1
        obtain ⟨I1, hI1⟩ : ∃ X : mI, X = (va_up I m (va_up (va_up (va_up (I m) 55 (nI 1)) 56 (nI k)) 57 (nI c))) := ⟨_, rfl⟩
        rw [← hI1] at hb1 ⊢
        have f5 : I1 m 55 = nI 1 := by rw [hI1, am_up_s, am_up_n _ _ (by decide), am_up_n _ _ (by decide), am_up_s]
        have f6 : I1 m 56 = nI k := by rw [hI1, am_up_s, am_up_n _ _ (by decide), am_up_s]
        have f7 : I1 m 57 = nI c := by rw [hI1, am_up_s, am_up_s]
        have f66 : I1 m 66 = g := by rw [hI1, am_up_s, am_up_n _ _ (by decide), am_up_n _ _ (by decide), am_up_n _ _ (by decide)]; exact h66
        have f67 : I1 m 67 = v := by rw [hI1, am_up_s, am_up_n _ _ (by decide), am_up_n _ _ (by decide), am_up_n _ _ (by decide)]; exact h67
        have f0 : I1 m 0 = I m 0 := by rw [hI1, am_up_s, am_up_n _ _ (by decide), am_up_n _ _ (by decide), am_up_n _ _ (by decide)]
        clear hI1
        refine r_aload_n dX10_builds_15 rfl ?_
        refine r_getR dX10_builds_16 fl_X10_29 rfl (kM_0 hM) (pM_9 hM) ?_
        refine r_aload_n dX10_builds_19 rfl ?_
        refine r_getI dX10_builds_20 fl_X10_99 rfl (kM_0 hM) ?_
        rw [hb1.2.2.2.1.2]
        refine r_iconst (v := nI 1) dX10_builds_23 (by decide) ?_
        refine r_aload_n dX10_builds_24 rfl ?_
        refine r_getI dX10_builds_25 fl_X10_99 rfl (kM_0 hM) ?_
        rw [hb1.2.2.2.1.2]
        refine r_ishl dX10_builds_28 ?_
        rw [sh1_nI H (by omega)]
        refine r_iload_n dX10_builds_29 rfl ?_
        refine r_if_ne (tgt := 37) dX10_builds_30 (by decide) (fun _ => ?_) (fun hz => absurd hz (show ¬ _ from (by decide)))
        refine r_iconst (v := nI 1) dX10_builds_37 (by decide) ?_
        refine r_iload_n dX10_builds_38 rfl ?_
        refine r_ishl dX10_builds_39 ?_
        refine r_ior dX10_builds_40 ?_
        rw [show (nI (2 ^ H) ||| (nI 1 <<< (nI k &&& 31))) = nI (lkm 0 (nr2 H k c 20004)) from by rw [or_sh2 (by omega), lkm_2 hH7 hk (by omega) (by decide)]]
        refine r_iast dX10_builds_41 (aM_9 hM) (nI_in8 8 (by omega) (by decide)) (nI_clamp (by omega)) ?_
        have hb2 := hb1.lk (x := nI (lkm 0 (nr2 H k c 20004)))
        obtain ⟨I2, hI2⟩ : ∃ X : mI, X = va_up I1 (m + 6) (va_up (I1 (m + 6)) H (nI (lkm 0 (nr2 H k c 20004)))) := ⟨_, rfl⟩
        rw [← hI2] at hb2 ⊢
        have em : I2 m = I1 m := by rw [hI2, am_up_n _ _ (by omega)]
        have e6 : I2 (m + 6) H = nI (lkm 0 (nr2 H k c 20004)) := by rw [hI2, am_up_s, am_up_s]
        rw [← em] at f5 f6 f7 f66 f67 f0
        clear hI2
        refine r_aload_n dX10_builds_42 rfl ?_
        refine r_aload_n dX10_builds_43 rfl ?_
        refine r_virtE (c_X10_speaking m (H + 1) hM hb2.2.2.2.1.1 (by omega)) lk_X10_429 mc_X10_speaking dX10_builds_44 (kM_0 hM) (by decide) rfl rfl (Nat.le_of_ble_eq_true rfl) ?_
        rw [hb2.sp (sp_r (by omega) hC.2.2.1 hC.2.2.2.1)]
        refine r_iconst (v := nI 1) dX10_builds_47 (by decide) ?_
        refine r_aload_n dX10_builds_48 rfl ?_
        refine r_getI dX10_builds_49 fl_X10_99 rfl (kM_0 hM) ?_
        rw [hb2.2.2.2.1.2]
        refine r_ishl dX10_builds_52 ?_
        refine r_ior dX10_builds_53 ?_
        rw [or_sh2 (show H < 32 by omega)]
        refine r_iconst (v := nI 1) dX10_builds_54 (by decide) ?_
        refine r_iconst (v := nI 2) dX10_builds_55 (by decide) ?_
        refine r_virt (kc2 := 0) (ks2 := 0) (q_seeksF m (nr2 H k c 20004) hC hz hH7 hb2 (Or.inr ⟨k, c, 20004, hk, by omega, rfl, f6, f7, Or.inl ⟨rfl, f5⟩⟩) e6) lk_X10_432 mc_X10_seeks dX10_builds_56 (kM_0 hM) (by decide) rfl rfl (Nat.le_of_ble_eq_true rfl) (by decide) (by decide) (fun _ _ _ _ _ _ h => nomatch h.1) ?_
        rintro v4 n4 kd4 I4 J4 P4 ⟨h00, rfl, rfl, rfl, rfl, hfr, hf52⟩
        cases h00
        simp only [Option.toList, List.nil_append, List.cons_append]
        have hb4 := hb2.rf hfr
        have i66 : I4 m 66 = g := (hfr.2 66 (by decide) (by decide)).trans f66
        have i67 : I4 m 67 = v := (hfr.2 67 (by decide) (by decide)).trans f67
        have i0 : I4 m 0 = I m 0 := (hfr.2 0 (by decide) (by decide)).trans f0
        rw [gdR_2 hlen]
        rw [eq_false_of_ne_true hg]
        refine r_if_ne (tgt := 64) dX10_builds_59 (by decide) (fun _ => ?_) (fun hz => absurd hz (show ¬ _ from (by decide)))
        refine r_aload_n dX10_builds_64 rfl ?_
        refine r_getI dX10_builds_65 fl_X10_413 rfl (kM_0 hM) ?_
        rw [hf52]
        refine r_iconst (v := nI 1) dX10_builds_68 (by decide) ?_
        refine r_icmp_eq (tgt := 74) dX10_builds_69 (by decide) (fun _ => ?_) (fun hz => absurd (show _ from (by rw [c1])) hz)
        refine r_aload_n dX10_builds_74 rfl ?_
        refine r_getI dX10_builds_75 fl_X10_475 rfl (kM_0 hM) ?_
        rw [i66]
        refine r_if_ne (tgt := 105) dX10_builds_78 (by decide) (fun hz => absurd (show _ from c2) hz) (fun _ => ?_)
        refine r_aload_n dX10_builds_81 rfl ?_
        refine r_iload_n dX10_builds_82 rfl ?_
        refine r_if_ne (tgt := 90) dX10_builds_83 (by decide) (fun _ => ?_) (fun hz => absurd hz (show ¬ _ from (by decide)))
        refine r_sipush (v := nI 1000) dX10_builds_90 (by decide) ?_
        refine r_iload_n dX10_builds_93 rfl ?_
        refine r_imul dX10_builds_94 ?_
        rw [pk_mul]
        refine r_bipush (v := nI 100) dX10_builds_95 (by decide) ?_
        refine r_iload_n dX10_builds_97 rfl ?_
        refine r_imul dX10_builds_98 ?_
        rw [pk_mul]
        refine r_iadd dX10_builds_99 ?_
        rw [nI_add]
        refine r_iload_n dX10_builds_100 rfl ?_
        refine r_iadd dX10_builds_101 ?_
        rw [nI_add]
        refine r_putI dX10_builds_102 fl_X10_478 rfl rfl (kM_0 hM) ?_
        have hb5 := hb4.m (j := 67) (x := nI (1000 * 1 + 100 * k + c)) (by decide)
        obtain ⟨I5, hI5⟩ : ∃ X : mI, X = va_up I4 m (va_up (I4 m) 67 (nI (1000 * 1 + 100 * k + c))) := ⟨_, rfl⟩
        rw [← hI5] at hb5 ⊢
        have j66 : I5 m 66 = g := by rw [hI5, am_up_s, am_up_n _ _ (by decide)]; exact i66
        have j67 : I5 m 67 = nI (1000 * 1 + 100 * k + c) := by rw [hI5, am_up_s, am_up_s]
        have j0 : I5 m 0 = I m 0 := by rw [hI5, am_up_s, am_up_n _ _ (by decide)]; exact i0
        clear hI5
        refine r_aload_n dX10_builds_105 rfl ?_
        refine r_dup dX10_builds_106 rfl ?_
        refine r_getI dX10_builds_107 fl_X10_475 rfl (kM_0 hM) ?_
        rw [j66]
        refine r_iconst (v := nI 1) dX10_builds_110 (by decide) ?_
        refine r_iadd dX10_builds_111 ?_
        refine r_putI dX10_builds_112 fl_X10_475 rfl rfl (kM_0 hM) ?_
        refine r_iconst (v := nI 1) dX10_builds_115 (by decide) ?_
        refine r_zret rfl dX10_builds_116 (by first | exact Or.inl rfl | exact Or.inr rfl | assumption) ?_
        rw [bSt_1 hg c1]
        refine ⟨rfl, rfl, rfl, rfl, rfl, hb5.m (j := 66) (by decide), fun j hj => ?_, ?_, ?_⟩
        · rw [am_up_s, am_up_n _ _ (by omega), hj]; exact j0
        · rw [am_up_s, am_up_s]
        · rw [am_up_s, am_up_n _ _ (by decide), if_pos c2, j67]
      · skip
        refine r_aload_n dX10_builds_0 rfl ?_
        refine r_iload_n dX10_builds_1 rfl ?_
        refine r_putI dX10_builds_2 fl_X10_393 rfl rfl (kM_0 hM) ?_
        refine r_aload_n dX10_builds_5 rfl ?_
        refine r_iload_n dX10_builds_6 rfl ?_
        refine r_putI dX10_builds_7 fl_X10_399 rfl rfl (kM_0 hM) ?_
        rw [am_up_s, am_up_up]
        refine r_aload_n dX10_builds_10 rfl ?_
        refine r_iload_n dX10_builds_11 rfl ?_
        refine r_putI dX10_builds_12 fl_X10_396 rfl rfl (kM_0 hM) ?_
        rw [am_up_s, am_up_up]
        have hb1 := ((hb.m (j := 55) (x := nI 1) (by decide)).m (j := 56) (x := nI k) (by decide)).m (j := 57) (x := nI c) (by decide)
        rw [am_up_s, am_up_s, am_up_up, am_up_up] at hb1
        obtain ⟨I1, hI1⟩ : ∃ X : mI, X = (va_up I m (va_up (va_up (va_up (I m) 55 (nI 1)) 56 (nI k)) 57 (nI c))) := ⟨_, rfl⟩
        rw [← hI1] at hb1 ⊢
        have f5 : I1 m 55 = nI 1 := by rw [hI1, am_up_s, am_up_n _ _ (by decide), am_up_n _ _ (by decide), am_up_s]
        have f6 : I1 m 56 = nI k := by rw [hI1, am_up_s, am_up_n _ _ (by decide), am_up_s]
        have f7 : I1 m 57 = nI c := by rw [hI1, am_up_s, am_up_s]
        have f66 : I1 m 66 = g := by rw [hI1, am_up_s, am_up_n _ _ (by decide), am_up_n _ _ (by decide), am_up_n _ _ (by decide)]; exact h66
        have f67 : I1 m 67 = v := by rw [hI1, am_up_s, am_up_n _ _ (by decide), am_up_n _ _ (by decide), am_up_n _ _ (by decide)]; exact h67
        have f0 : I1 m 0 = I m 0 := by rw [hI1, am_up_s, am_up_n _ _ (by decide), am_up_n _ _ (by decide), am_up_n _ _ (by decide)]
        clear hI1
        refine r_aload_n dX10_builds_15 rfl ?_
        refine r_getR dX10_builds_16 fl_X10_29 rfl (kM_0 hM) (pM_9 hM) ?_
        refine r_aload_n dX10_builds_19 rfl ?_
        refine r_getI dX10_builds_20 fl_X10_99 rfl (kM_0 hM) ?_
        rw [hb1.2.2.2.1.2]
        refine r_iconst (v := nI 1) dX10_builds_23 (by decide) ?_
        refine r_aload_n dX10_builds_24 rfl ?_
        refine r_getI dX10_builds_25 fl_X10_99 rfl (kM_0 hM) ?_
        rw [hb1.2.2.2.1.2]
        refine r_ishl dX10_builds_28 ?_
        rw [sh1_nI H (by omega)]
        refine r_iload_n dX10_builds_29 rfl ?_
        refine r_if_ne (tgt := 37) dX10_builds_30 (by decide) (fun _ => ?_) (fun hz => absurd hz (show ¬ _ from (by decide)))
        refine r_iconst (v := nI 1) dX10_builds_37 (by decide) ?_
        refine r_iload_n dX10_builds_38 rfl ?_
        refine r_ishl dX10_builds_39 ?_
        refine r_ior dX10_builds_40 ?_
        rw [show (nI (2 ^ H) ||| (nI 1 <<< (nI k &&& 31))) = nI (lkm 0 (nr2 H k c 20004)) from by rw [or_sh2 (by omega), lkm_2 hH7 hk (by omega) (by decide)]]
        refine r_iast dX10_builds_41 (aM_9 hM) (nI_in8 8 (by omega) (by decide)) (nI_clamp (by omega)) ?_
        have hb2 := hb1.lk (x := nI (lkm 0 (nr2 H k c 20004)))
        obtain ⟨I2, hI2⟩ : ∃ X : mI, X = va_up I1 (m + 6) (va_up (I1 (m + 6)) H (nI (lkm 0 (nr2 H k c 20004)))) := ⟨_, rfl⟩
        rw [← hI2] at hb2 ⊢
        have em : I2 m = I1 m := by rw [hI2, am_up_n _ _ (by omega)]
        have e6 : I2 (m + 6) H = nI (lkm 0 (nr2 H k c 20004)) := by rw [hI2, am_up_s, am_up_s]
        rw [← em] at f5 f6 f7 f66 f67 f0
        clear hI2
        refine r_aload_n dX10_builds_42 rfl ?_
        refine r_aload_n dX10_builds_43 rfl ?_
        refine r_virtE (c_X10_speaking m (H + 1) hM hb2.2.2.2.1.1 (by omega)) lk_X10_429 mc_X10_speaking dX10_builds_44 (kM_0 hM) (by decide) rfl rfl (Nat.le_of_ble_eq_true rfl) ?_
        rw [hb2.sp (sp_r (by omega) hC.2.2.1 hC.2.2.2.1)]
        refine r_iconst (v := nI 1) dX10_builds_47 (by decide) ?_
        refine r_aload_n dX10_builds_48 rfl ?_
        refine r_getI dX10_builds_49 fl_X10_99 rfl (kM_0 hM) ?_
        rw [hb2.2.2.2.1.2]
        refine r_ishl dX10_builds_52 ?_
        refine r_ior dX10_builds_53 ?_
        rw [or_sh2 (show H < 32 by omega)]
        refine r_iconst (v := nI 1) dX10_builds_54 (by decide) ?_
        refine r_iconst (v := nI 2) dX10_builds_55 (by decide) ?_
        refine r_virt (kc2 := 0) (ks2 := 0) (q_seeksF m (nr2 H k c 20004) hC hz hH7 hb2 (Or.inr ⟨k, c, 20004, hk, by omega, rfl, f6, f7, Or.inl ⟨rfl, f5⟩⟩) e6) lk_X10_432 mc_X10_seeks dX10_builds_56 (kM_0 hM) (by decide) rfl rfl (Nat.le_of_ble_eq_true rfl) (by decide) (by decide) (fun _ _ _ _ _ _ h => nomatch h.1) ?_
        rintro v4 n4 kd4 I4 J4 P4 ⟨h00, rfl, rfl, rfl, rfl, hfr, hf52⟩
        cases h00
        simp only [Option.toList, List.nil_append, List.cons_append]
        have hb4 := hb2.rf hfr
        have i66 : I4 m 66 = g := (hfr.2 66 (by decide) (by decide)).trans f66
        have i67 : I4 m 67 = v := (hfr.2 67 (by decide) (by decide)).trans f67
        have i0 : I4 m 0 = I m 0 := (hfr.2 0 (by decide) (by decide)).trans f0
        rw [gdR_2 hlen]
        rw [eq_false_of_ne_true hg]
        refine r_if_ne (tgt := 64) dX10_builds_59 (by decide) (fun _ => ?_) (fun hz => absurd hz (show ¬ _ from (by decide)))
        refine r_aload_n dX10_builds_64 rfl ?_
        refine r_getI dX10_builds_65 fl_X10_413 rfl (kM_0 hM) ?_
        rw [hf52]
        refine r_iconst (v := nI 1) dX10_builds_68 (by decide) ?_
        refine r_icmp_eq (tgt := 74) dX10_builds_69 (by decide) (fun _ => ?_) (fun hz => absurd (show _ from (by rw [c1])) hz)
        refine r_aload_n dX10_builds_74 rfl ?_
        refine r_getI dX10_builds_75 fl_X10_475 rfl (kM_0 hM) ?_
        rw [i66]
        refine r_if_ne (tgt := 105) dX10_builds_78 (by decide) (fun _ => ?_) (fun hz => absurd hz (show ¬ _ from c2))
        refine r_aload_n dX10_builds_105 rfl ?_
        refine r_dup dX10_builds_106 rfl ?_
        refine r_getI dX10_builds_107 fl_X10_475 rfl (kM_0 hM) ?_
        rw [i66]
        refine r_iconst (v := nI 1) dX10_builds_110 (by decide) ?_
        refine r_iadd dX10_builds_111 ?_
        refine r_putI dX10_builds_112 fl_X10_475 rfl rfl (kM_0 hM) ?_
        refine r_iconst (v := nI 1) dX10_builds_115 (by decide) ?_
        refine r_zret rfl dX10_builds_116 (by first | exact Or.inl rfl | exact Or.inr rfl | assumption) ?_
        rw [bSt_1 hg c1]
        refine ⟨rfl, rfl, rfl, rfl, rfl, hb4.m (j := 66) (by decide), fun j hj => ?_, ?_, ?_⟩
        · rw [am_up_s, am_up_n _ _ (by omega), hj]; exact i0
        · rw [am_up_s, am_up_s]
        · rw [am_up_s, am_up_n _ _ (by decide), if_neg c2, i67]
    · skip
      refine r_aload_n dX10_builds_0 rfl ?_
      refine r_iload_n dX10_builds_1 rfl ?_
      refine r_putI dX10_builds_2 fl_X10_393 rfl rfl (kM_0 hM) ?_
      refine r_aload_n dX10_builds_5 rfl ?_
      refine r_iload_n dX10_builds_6 rfl ?_
      refine r_putI dX10_builds_7 fl_X10_399 rfl rfl (kM_0 hM) ?_
      rw [am_up_s, am_up_up]
      refine r_aload_n dX10_builds_10 rfl ?_
      refine r_iload_n dX10_builds_11 rfl ?_
      refine r_putI dX10_builds_12 fl_X10_396 rfl rfl (kM_0 hM) ?_
      rw [am_up_s, am_up_up]
      have hb1 := ((hb.m (j := 55) (x := nI 1) (by decide)).m (j := 56) (x := nI k) (by decide)).m (j := 57) (x := nI c) (by decide)
      rw [am_up_s, am_up_s, am_up_up, am_up_up] at hb1
      obtain ⟨I1, hI1⟩ : ∃ X : mI, X = (va_up I m (va_up (va_up (va_up (I m) 55 (nI 1)) 56 (nI k)) 57 (nI c))) := ⟨_, rfl⟩
      rw [← hI1] at hb1 ⊢
      have f5 : I1 m 55 = nI 1 := by rw [hI1, am_up_s, am_up_n _ _ (by decide), am_up_n _ _ (by decide), am_up_s]
      have f6 : I1 m 56 = nI k := by rw [hI1, am_up_s, am_up_n _ _ (by decide), am_up_s]
      have f7 : I1 m 57 = nI c := by rw [hI1, am_up_s, am_up_s]
      have f66 : I1 m 66 = g := by rw [hI1, am_up_s, am_up_n _ _ (by decide), am_up_n _ _ (by decide), am_up_n _ _ (by decide)]; exact h66
      have f67 : I1 m 67 = v := by rw [hI1, am_up_s, am_up_n _ _ (by decide), am_up_n _ _ (by decide), am_up_n _ _ (by decide)]; exact h67
      have f0 : I1 m 0 = I m 0 := by rw [hI1, am_up_s, am_up_n _ _ (by decide), am_up_n _ _ (by decide), am_up_n _ _ (by decide)]
      clear hI1
      refine r_aload_n dX10_builds_15 rfl ?_
      refine r_getR dX10_builds_16 fl_X10_29 rfl (kM_0 hM) (pM_9 hM) ?_
      refine r_aload_n dX10_builds_19 rfl ?_
      refine r_getI dX10_builds_20 fl_X10_99 rfl (kM_0 hM) ?_
      rw [hb1.2.2.2.1.2]
      refine r_iconst (v := nI 1) dX10_builds_23 (by decide) ?_
      refine r_aload_n dX10_builds_24 rfl ?_
      refine r_getI dX10_builds_25 fl_X10_99 rfl (kM_0 hM) ?_
      rw [hb1.2.2.2.1.2]
      refine r_ishl dX10_builds_28 ?_
      rw [sh1_nI H (by omega)]
      refine r_iload_n dX10_builds_29 rfl ?_
      refine r_if_ne (tgt := 37) dX10_builds_30 (by decide) (fun _ => ?_) (fun hz => absurd hz (show ¬ _ from (by decide)))
      refine r_iconst (v := nI 1) dX10_builds_37 (by decide) ?_
      refine r_iload_n dX10_builds_38 rfl ?_
      refine r_ishl dX10_builds_39 ?_
      refine r_ior dX10_builds_40 ?_
      rw [show (nI (2 ^ H) ||| (nI 1 <<< (nI k &&& 31))) = nI (lkm 0 (nr2 H k c 20004)) from by rw [or_sh2 (by omega), lkm_2 hH7 hk (by omega) (by decide)]]
      refine r_iast dX10_builds_41 (aM_9 hM) (nI_in8 8 (by omega) (by decide)) (nI_clamp (by omega)) ?_
      have hb2 := hb1.lk (x := nI (lkm 0 (nr2 H k c 20004)))
      obtain ⟨I2, hI2⟩ : ∃ X : mI, X = va_up I1 (m + 6) (va_up (I1 (m + 6)) H (nI (lkm 0 (nr2 H k c 20004)))) := ⟨_, rfl⟩
      rw [← hI2] at hb2 ⊢
      have em : I2 m = I1 m := by rw [hI2, am_up_n _ _ (by omega)]
      have e6 : I2 (m + 6) H = nI (lkm 0 (nr2 H k c 20004)) := by rw [hI2, am_up_s, am_up_s]
      rw [← em] at f5 f6 f7 f66 f67 f0
      clear hI2
      refine r_aload_n dX10_builds_42 rfl ?_
      refine r_aload_n dX10_builds_43 rfl ?_
      refine r_virtE (c_X10_speaking m (H + 1) hM hb2.2.2.2.1.1 (by omega)) lk_X10_429 mc_X10_speaking dX10_builds_44 (kM_0 hM) (by decide) rfl rfl (Nat.le_of_ble_eq_true rfl) ?_
      rw [hb2.sp (sp_r (by omega) hC.2.2.1 hC.2.2.2.1)]
      refine r_iconst (v := nI 1) dX10_builds_47 (by decide) ?_
      refine r_aload_n dX10_builds_48 rfl ?_
      refine r_getI dX10_builds_49 fl_X10_99 rfl (kM_0 hM) ?_
      rw [hb2.2.2.2.1.2]
      refine r_ishl dX10_builds_52 ?_
      refine r_ior dX10_builds_53 ?_
      rw [or_sh2 (show H < 32 by omega)]
      refine r_iconst (v := nI 1) dX10_builds_54 (by decide) ?_
      refine r_iconst (v := nI 2) dX10_builds_55 (by decide) ?_
      refine r_virt (kc2 := 0) (ks2 := 0) (q_seeksF m (nr2 H k c 20004) hC hz hH7 hb2 (Or.inr ⟨k, c, 20004, hk, by omega, rfl, f6, f7, Or.inl ⟨rfl, f5⟩⟩) e6) lk_X10_432 mc_X10_seeks dX10_builds_56 (kM_0 hM) (by decide) rfl rfl (Nat.le_of_ble_eq_true rfl) (by decide) (by decide) (fun _ _ _ _ _ _ h => nomatch h.1) ?_
      rintro v4 n4 kd4 I4 J4 P4 ⟨h00, rfl, rfl, rfl, rfl, hfr, hf52⟩
      cases h00
      simp only [Option.toList, List.nil_append, List.cons_append]
      have hb4 := hb2.rf hfr
      have i66 : I4 m 66 = g := (hfr.2 66 (by decide) (by decide)).trans f66
      have i67 : I4 m 67 = v := (hfr.2 67 (by decide) (by decide)).trans f67
      have i0 : I4 m 0 = I m 0 := (hfr.2 0 (by decide) (by decide)).trans f0
      rw [gdR_2 hlen]
      rw [eq_false_of_ne_true hg]
      refine r_if_ne (tgt := 64) dX10_builds_59 (by decide) (fun _ => ?_) (fun hz => absurd hz (show ¬ _ from (by decide)))
      refine r_aload_n dX10_builds_64 rfl ?_
      refine r_getI dX10_builds_65 fl_X10_413 rfl (kM_0 hM) ?_
      rw [hf52]
      refine r_iconst (v := nI 1) dX10_builds_68 (by decide) ?_
      refine r_icmp_eq (tgt := 74) dX10_builds_69 (by decide) (fun hz => absurd hz (show ¬ _ from (fun z => c1 ((nI_eq (by omega) (by decide)).mp z)))) (fun _ => ?_)
      refine r_iconst (v := nI 1) dX10_builds_72 (by decide) ?_
      refine r_zret rfl dX10_builds_73 (by first | exact Or.inl rfl | exact Or.inr rfl | assumption) ?_
      rw [bSt_2 hg c1]
      exact ⟨rfl, rfl, rfl, rfl, rfl, hb4, fun j hj => by rw [hj]; exact i0, i66, i67⟩

set_option maxHeartbeats 4000000 in
set_option maxRecDepth 100000 in
theorem c_builds2 (m : Nat) (k c : Nat) (g v : Int32) {I0 : mI} {t : Nat} {T : Nat → Nat} {fp : Int32} {rr : Nat → Int32} {H M : Nat} {un : Bool} {cs : Nat → List Nat} {tx : Nat → List Int32} {e : Lf} {im : Option Lf} {wk : Option (List Nat)} {n : Nat} {kd : mK} {I : mI} {J : mJ} {P : mP} (hC : RR m kd I0 P t T fp rr H M un cs tx e im wk) (hz : okZ t T H M cs e) (hH7 : H < 8) (hb : rbS I0 I m H) (hk : k < H) (hc : c < 100) (h66 : I m 66 = g) (h67 : I m 67 = v) : Ct yX10_builds cX10_builds 4 (some .boolean) 6 0 0 [.ref m, .int (nI 2), .int (nI k), .int (nI c)] n kd I J P (fun z n' kd' I' J' P' => z = .inl (some (.int (bz (bSt (some (g, v)) (bR H M un cs e (nr2 H k c 20006)) (nI (1000 * 2 + 100 * k + c))).isSome))) ∧ n' = n ∧ kd' = kd ∧ J' = J ∧ P' = P ∧ rbS I0 I' m H ∧ (∀ j, j = 0 → I' m j = I m j) ∧ acR (bSt (some (g, v)) (bR H M un cs e (nr2 H k c 20006)) (nI (1000 * 2 + 100 * k + c))) (I' m 66) (I' m 67)) := by
  have hM := hC.1
  have hM20 : 2 ≤ M ∧ M ≤ 20 := hz.2.1.1
  have hlen := bR_len (un := un) (cs := cs) (e := e) (r := (nr2 H k c 20006)) hH7 hM20.2
  refine ct_of 0 (by decide +kernel) (Nat.le_of_ble_eq_true rfl) rfl ?_
  by_cases hg : (bR H M un cs e (nr2 H k c 20006)).2.2 = true
  · skip
    refine r_aload_n dX10_builds_0 rfl ?_
    refine r_iload_n dX10_builds_1 rfl ?_
    refine r_putI dX10_builds_2 fl_X10_393 rfl rfl (kM_0 hM) ?_
    refine r_aload_n dX10_builds_5 rfl ?_
    refine r_iload_n dX10_builds_6 rfl ?_
    refine r_putI dX10_builds_7 fl_X10_399 rfl rfl (kM_0 hM) ?_
    rw [am_up_s, am_up_up]
    refine r_aload_n dX10_builds_10 rfl ?_
    refine r_iload_n dX10_builds_11 rfl ?_
    refine r_putI dX10_builds_12 fl_X10_396 rfl rfl (kM_0 hM) ?_
    rw [am_up_s, am_up_up]
    have hb1 := ((hb.m (j := 55) (x := nI 2) (by decide)).m (j := 56) (x := nI k) (by decide)).m (j := 57) (x := nI c) (by decide)
    rw [am_up_s, am_up_s, am_up_up, am_up_up] at hb1
    obtain ⟨I1, hI1⟩ : ∃ X : mI, X = (va_up I m (va_up (va_up (va_up (I m) 55 (nI 2)) 56 (nI k)) 57 (nI c))) := ⟨_, rfl⟩
    rw [← hI1] at hb1 ⊢
    have f5 : I1 m 55 = nI 2 := by rw [hI1, am_up_s, am_up_n _ _ (by decide), am_up_n _ _ (by decide), am_up_s]
    have f6 : I1 m 56 = nI k := by rw [hI1, am_up_s, am_up_n _ _ (by decide), am_up_s]
    have f7 : I1 m 57 = nI c := by rw [hI1, am_up_s, am_up_s]
    have f66 : I1 m 66 = g := by rw [hI1, am_up_s, am_up_n _ _ (by decide), am_up_n _ _ (by decide), am_up_n _ _ (by decide)]; exact h66
    have f67 : I1 m 67 = v := by rw [hI1, am_up_s, am_up_n _ _ (by decide), am_up_n _ _ (by decide), am_up_n _ _ (by decide)]; exact h67
    have f0 : I1 m 0 = I m 0 := by rw [hI1, am_up_s, am_up_n _ _ (by decide), am_up_n _ _ (by decide), am_up_n _ _ (by decide)]
    clear hI1
    refine r_aload_n dX10_builds_15 rfl ?_
    refine r_getR dX10_builds_16 fl_X10_29 rfl (kM_0 hM) (pM_9 hM) ?_
    refine r_aload_n dX10_builds_19 rfl ?_
    refine r_getI dX10_builds_20 fl_X10_99 rfl (kM_0 hM) ?_
    rw [hb1.2.2.2.1.2]
    refine r_iconst (v := nI 1) dX10_builds_23 (by decide) ?_
    refine r_aload_n dX10_builds_24 rfl ?_
    refine r_getI dX10_builds_25 fl_X10_99 rfl (kM_0 hM) ?_
    rw [hb1.2.2.2.1.2]
    refine r_ishl dX10_builds_28 ?_
    rw [sh1_nI H (by omega)]
    refine r_iload_n dX10_builds_29 rfl ?_
    refine r_if_ne (tgt := 37) dX10_builds_30 (by decide) (fun _ => ?_) (fun hz => absurd hz (show ¬ _ from (by decide)))
    refine r_iconst (v := nI 1) dX10_builds_37 (by decide) ?_
    refine r_iload_n dX10_builds_38 rfl ?_
    refine r_ishl dX10_builds_39 ?_
    refine r_ior dX10_builds_40 ?_
    rw [show (nI (2 ^ H) ||| (nI 1 <<< (nI k &&& 31))) = nI (lkm 0 (nr2 H k c 20006)) from by rw [or_sh2 (by omega), lkm_2 hH7 hk (by omega) (by decide)]]
    refine r_iast dX10_builds_41 (aM_9 hM) (nI_in8 8 (by omega) (by decide)) (nI_clamp (by omega)) ?_
    have hb2 := hb1.lk (x := nI (lkm 0 (nr2 H k c 20006)))
    obtain ⟨I2, hI2⟩ : ∃ X : mI, X = va_up I1 (m + 6) (va_up (I1 (m + 6)) H (nI (lkm 0 (nr2 H k c 20006)))) := ⟨_, rfl⟩
    rw [← hI2] at hb2 ⊢
    have em : I2 m = I1 m := by rw [hI2, am_up_n _ _ (by omega)]
    have e6 : I2 (m + 6) H = nI (lkm 0 (nr2 H k c 20006)) := by rw [hI2, am_up_s, am_up_s]
    rw [← em] at f5 f6 f7 f66 f67 f0
    clear hI2
    refine r_aload_n dX10_builds_42 rfl ?_
    refine r_aload_n dX10_builds_43 rfl ?_
    refine r_virtE (c_X10_speaking m (H + 1) hM hb2.2.2.2.1.1 (by omega)) lk_X10_429 mc_X10_speaking dX10_builds_44 (kM_0 hM) (by decide) rfl rfl (Nat.le_of_ble_eq_true rfl) ?_
    rw [hb2.sp (sp_r (by omega) hC.2.2.1 hC.2.2.2.1)]
    refine r_iconst (v := nI 1) dX10_builds_47 (by decide) ?_
    refine r_aload_n dX10_builds_48 rfl ?_
    refine r_getI dX10_builds_49 fl_X10_99 rfl (kM_0 hM) ?_
    rw [hb2.2.2.2.1.2]
    refine r_ishl dX10_builds_52 ?_
    refine r_ior dX10_builds_53 ?_
    rw [or_sh2 (show H < 32 by omega)]
    refine r_iconst (v := nI 1) dX10_builds_54 (by decide) ?_
    refine r_iconst (v := nI 2) dX10_builds_55 (by decide) ?_
    refine r_virt (kc2 := 0) (ks2 := 0) (q_seeksF m (nr2 H k c 20006) hC hz hH7 hb2 (Or.inr ⟨k, c, 20006, hk, by omega, rfl, f6, f7, Or.inr ⟨rfl, f5⟩⟩) e6) lk_X10_432 mc_X10_seeks dX10_builds_56 (kM_0 hM) (by decide) rfl rfl (Nat.le_of_ble_eq_true rfl) (by decide) (by decide) (fun _ _ _ _ _ _ h => nomatch h.1) ?_
    rintro v4 n4 kd4 I4 J4 P4 ⟨h00, rfl, rfl, rfl, rfl, hfr, hf52⟩
    cases h00
    simp only [Option.toList, List.nil_append, List.cons_append]
    have hb4 := hb2.rf hfr
    have i66 : I4 m 66 = g := (hfr.2 66 (by decide) (by decide)).trans f66
    have i67 : I4 m 67 = v := (hfr.2 67 (by decide) (by decide)).trans f67
    have i0 : I4 m 0 = I m 0 := (hfr.2 0 (by decide) (by decide)).trans f0
    rw [gdR_2 hlen]
    rw [hg]
    refine r_if_ne (tgt := 64) dX10_builds_59 (by decide) (fun hz => absurd (show _ from rfl) hz) (fun _ => ?_)
    refine r_iconst (v := nI 0) dX10_builds_62 (by decide) ?_
    refine r_zret rfl dX10_builds_63 (by first | exact Or.inl rfl | exact Or.inr rfl | assumption) ?_
    rw [bSt_sp hg]
    exact ⟨rfl, rfl, rfl, rfl, rfl, hb4, fun j hj => by rw [hj]; exact i0, trivial⟩
  · by_cases c1 : (bR H M un cs e (nr2 H k c 20006)).2.1.length = 1
    · by_cases c2 : g = 0
      · skip
        refine r_aload_n dX10_builds_0 rfl ?_
        refine r_iload_n dX10_builds_1 rfl ?_
        refine r_putI dX10_builds_2 fl_X10_393 rfl rfl (kM_0 hM) ?_
        refine r_aload_n dX10_builds_5 rfl ?_
        refine r_iload_n dX10_builds_6 rfl ?_
        refine r_putI dX10_builds_7 fl_X10_399 rfl rfl (kM_0 hM) ?_
        rw [am_up_s, am_up_up]
        refine r_aload_n dX10_builds_10 rfl ?_
        refine r_iload_n dX10_builds_11 rfl ?_
        refine r_putI dX10_builds_12 fl_X10_396 rfl rfl (kM_0 hM) ?_
        rw [am_up_s, am_up_up]
        have hb1 := ((hb.m (j := 55) (x := nI 2) (by decide)).m (j := 56) (x := nI k) (by decide)).m (j := 57) (x := nI c) (by decide)
        rw [am_up_s, am_up_s, am_up_up, am_up_up] at hb1
        obtain ⟨I1, hI1⟩ : ∃ X : mI, X = (va_up I m (va_up (va_up (va_up (I m) 55 (nI 2)) 56 (nI k)) 57 (nI c))) := ⟨_, rfl⟩
        rw [← hI1] at hb1 ⊢
        have f5 : I1 m 55 = nI 2 := by rw [hI1, am_up_s, am_up_n _ _ (by decide), am_up_n _ _ (by decide), am_up_s]
        have f6 : I1 m 56 = nI k := by rw [hI1, am_up_s, am_up_n _ _ (by decide), am_up_s]
        have f7 : I1 m 57 = nI c := by rw [hI1, am_up_s, am_up_s]
        have f66 : I1 m 66 = g := by rw [hI1, am_up_s, am_up_n _ _ (by decide), am_up_n _ _ (by decide), am_up_n _ _ (by decide)]; exact h66
        have f67 : I1 m 67 = v := by rw [hI1, am_up_s, am_up_n _ _ (by decide), am_up_n _ _ (by decide), am_up_n _ _ (by decide)]; exact h67
        have f0 : I1 m 0 = I m 0 := by rw [hI1, am_up_s, am_up_n _ _ (by decide), am_up_n _ _ (by decide), am_up_n _ _ (by decide)]
        clear hI1
        refine r_aload_n dX10_builds_15 rfl ?_
        refine r_getR dX10_builds_16 fl_X10_29 rfl (kM_0 hM) (pM_9 hM) ?_
        refine r_aload_n dX10_builds_19 rfl ?_
        refine r_getI dX10_builds_20 fl_X10_99 rfl (kM_0 hM) ?_
        rw [hb1.2.2.2.1.2]
        refine r_iconst (v := nI 1) dX10_builds_23 (by decide) ?_
        refine r_aload_n dX10_builds_24 rfl ?_
        refine r_getI dX10_builds_25 fl_X10_99 rfl (kM_0 hM) ?_
        rw [hb1.2.2.2.1.2]
        refine r_ishl dX10_builds_28 ?_
        rw [sh1_nI H (by omega)]
        refine r_iload_n dX10_builds_29 rfl ?_
        refine r_if_ne (tgt := 37) dX10_builds_30 (by decide) (fun _ => ?_) (fun hz => absurd hz (show ¬ _ from (by decide)))
        refine r_iconst (v := nI 1) dX10_builds_37 (by decide) ?_
        refine r_iload_n dX10_builds_38 rfl ?_
        refine r_ishl dX10_builds_39 ?_
        refine r_ior dX10_builds_40 ?_
        rw [show (nI (2 ^ H) ||| (nI 1 <<< (nI k &&& 31))) = nI (lkm 0 (nr2 H k c 20006)) from by rw [or_sh2 (by omega), lkm_2 hH7 hk (by omega) (by decide)]]
        refine r_iast dX10_builds_41 (aM_9 hM) (nI_in8 8 (by omega) (by decide)) (nI_clamp (by omega)) ?_
        have hb2 := hb1.lk (x := nI (lkm 0 (nr2 H k c 20006)))
        obtain ⟨I2, hI2⟩ : ∃ X : mI, X = va_up I1 (m + 6) (va_up (I1 (m + 6)) H (nI (lkm 0 (nr2 H k c 20006)))) := ⟨_, rfl⟩
        rw [← hI2] at hb2 ⊢
        have em : I2 m = I1 m := by rw [hI2, am_up_n _ _ (by omega)]
        have e6 : I2 (m + 6) H = nI (lkm 0 (nr2 H k c 20006)) := by rw [hI2, am_up_s, am_up_s]
        rw [← em] at f5 f6 f7 f66 f67 f0
        clear hI2
        refine r_aload_n dX10_builds_42 rfl ?_
        refine r_aload_n dX10_builds_43 rfl ?_
        refine r_virtE (c_X10_speaking m (H + 1) hM hb2.2.2.2.1.1 (by omega)) lk_X10_429 mc_X10_speaking dX10_builds_44 (kM_0 hM) (by decide) rfl rfl (Nat.le_of_ble_eq_true rfl) ?_
        rw [hb2.sp (sp_r (by omega) hC.2.2.1 hC.2.2.2.1)]
        refine r_iconst (v := nI 1) dX10_builds_47 (by decide) ?_
        refine r_aload_n dX10_builds_48 rfl ?_
        refine r_getI dX10_builds_49 fl_X10_99 rfl (kM_0 hM) ?_
        rw [hb2.2.2.2.1.2]
        refine r_ishl dX10_builds_52 ?_
        refine r_ior dX10_builds_53 ?_
        rw [or_sh2 (show H < 32 by omega)]
        refine r_iconst (v := nI 1) dX10_builds_54 (by decide) ?_
        refine r_iconst (v := nI 2) dX10_builds_55 (by decide) ?_
        refine r_virt (kc2 := 0) (ks2 := 0) (q_seeksF m (nr2 H k c 20006) hC hz hH7 hb2 (Or.inr ⟨k, c, 20006, hk, by omega, rfl, f6, f7, Or.inr ⟨rfl, f5⟩⟩) e6) lk_X10_432 mc_X10_seeks dX10_builds_56 (kM_0 hM) (by decide) rfl rfl (Nat.le_of_ble_eq_true rfl) (by decide) (by decide) (fun _ _ _ _ _ _ h => nomatch h.1) ?_
        rintro v4 n4 kd4 I4 J4 P4 ⟨h00, rfl, rfl, rfl, rfl, hfr, hf52⟩
        cases h00
        simp only [Option.toList, List.nil_append, List.cons_append]
        have hb4 := hb2.rf hfr
        have i66 : I4 m 66 = g := (hfr.2 66 (by decide) (by decide)).trans f66
        have i67 : I4 m 67 = v := (hfr.2 67 (by decide) (by decide)).trans f67
        have i0 : I4 m 0 = I m 0 := (hfr.2 0 (by decide) (by decide)).trans f0
        rw [gdR_2 hlen]
        rw [eq_false_of_ne_true hg]
        refine r_if_ne (tgt := 64) dX10_builds_59 (by decide) (fun _ => ?_) (fun hz => absurd hz (show ¬ _ from (by decide)))
        refine r_aload_n dX10_builds_64 rfl ?_
        refine r_getI dX10_builds_65 fl_X10_413 rfl (kM_0 hM) ?_
        rw [hf52]
        refine r_iconst (v := nI 1) dX10_builds_68 (by decide) ?_
        refine r_icmp_eq (tgt := 74) dX10_builds_69 (by decide) (fun _ => ?_) (fun hz => absurd (show _ from (by rw [c1])) hz)
        refine r_aload_n dX10_builds_74 rfl ?_
        refine r_getI dX10_builds_75 fl_X10_475 rfl (kM_0 hM) ?_
        rw [i66]
        refine r_if_ne (tgt := 105) dX10_builds_78 (by decide) (fun hz => absurd (show _ from c2) hz) (fun _ => ?_)
        refine r_aload_n dX10_builds_81 rfl ?_
        refine r_iload_n dX10_builds_82 rfl ?_
        refine r_if_ne (tgt := 90) dX10_builds_83 (by decide) (fun _ => ?_) (fun hz => absurd hz (show ¬ _ from (by decide)))
        refine r_sipush (v := nI 1000) dX10_builds_90 (by decide) ?_
        refine r_iload_n dX10_builds_93 rfl ?_
        refine r_imul dX10_builds_94 ?_
        rw [pk_mul]
        refine r_bipush (v := nI 100) dX10_builds_95 (by decide) ?_
        refine r_iload_n dX10_builds_97 rfl ?_
        refine r_imul dX10_builds_98 ?_
        rw [pk_mul]
        refine r_iadd dX10_builds_99 ?_
        rw [nI_add]
        refine r_iload_n dX10_builds_100 rfl ?_
        refine r_iadd dX10_builds_101 ?_
        rw [nI_add]
        refine r_putI dX10_builds_102 fl_X10_478 rfl rfl (kM_0 hM) ?_
        have hb5 := hb4.m (j := 67) (x := nI (1000 * 2 + 100 * k + c)) (by decide)
        obtain ⟨I5, hI5⟩ : ∃ X : mI, X = va_up I4 m (va_up (I4 m) 67 (nI (1000 * 2 + 100 * k + c))) := ⟨_, rfl⟩
        rw [← hI5] at hb5 ⊢
        have j66 : I5 m 66 = g := by rw [hI5, am_up_s, am_up_n _ _ (by decide)]; exact i66
        have j67 : I5 m 67 = nI (1000 * 2 + 100 * k + c) := by rw [hI5, am_up_s, am_up_s]
        have j0 : I5 m 0 = I m 0 := by rw [hI5, am_up_s, am_up_n _ _ (by decide)]; exact i0
        clear hI5
        refine r_aload_n dX10_builds_105 rfl ?_
        refine r_dup dX10_builds_106 rfl ?_
        refine r_getI dX10_builds_107 fl_X10_475 rfl (kM_0 hM) ?_
        rw [j66]
        refine r_iconst (v := nI 1) dX10_builds_110 (by decide) ?_
        refine r_iadd dX10_builds_111 ?_
        refine r_putI dX10_builds_112 fl_X10_475 rfl rfl (kM_0 hM) ?_
        refine r_iconst (v := nI 1) dX10_builds_115 (by decide) ?_
        refine r_zret rfl dX10_builds_116 (by first | exact Or.inl rfl | exact Or.inr rfl | assumption) ?_
        rw [bSt_1 hg c1]
        refine ⟨rfl, rfl, rfl, rfl, rfl, hb5.m (j := 66) (by decide), fun j hj => ?_, ?_, ?_⟩
        · rw [am_up_s, am_up_n _ _ (by omega), hj]; exact j0
        · rw [am_up_s, am_up_s]
        · rw [am_up_s, am_up_n _ _ (by decide), if_pos c2, j67]
      · skip
        refine r_aload_n dX10_builds_0 rfl ?_
        refine r_iload_n dX10_builds_1 rfl ?_
        refine r_putI dX10_builds_2 fl_X10_393 rfl rfl (kM_0 hM) ?_
        refine r_aload_n dX10_builds_5 rfl ?_
        refine r_iload_n dX10_builds_6 rfl ?_
        refine r_putI dX10_builds_7 fl_X10_399 rfl rfl (kM_0 hM) ?_
        rw [am_up_s, am_up_up]
        refine r_aload_n dX10_builds_10 rfl ?_
        refine r_iload_n dX10_builds_11 rfl ?_
        refine r_putI dX10_builds_12 fl_X10_396 rfl rfl (kM_0 hM) ?_
        rw [am_up_s, am_up_up]
        have hb1 := ((hb.m (j := 55) (x := nI 2) (by decide)).m (j := 56) (x := nI k) (by decide)).m (j := 57) (x := nI c) (by decide)
        rw [am_up_s, am_up_s, am_up_up, am_up_up] at hb1
        obtain ⟨I1, hI1⟩ : ∃ X : mI, X = (va_up I m (va_up (va_up (va_up (I m) 55 (nI 2)) 56 (nI k)) 57 (nI c))) := ⟨_, rfl⟩
        rw [← hI1] at hb1 ⊢
        have f5 : I1 m 55 = nI 2 := by rw [hI1, am_up_s, am_up_n _ _ (by decide), am_up_n _ _ (by decide), am_up_s]
        have f6 : I1 m 56 = nI k := by rw [hI1, am_up_s, am_up_n _ _ (by decide), am_up_s]
        have f7 : I1 m 57 = nI c := by rw [hI1, am_up_s, am_up_s]
        have f66 : I1 m 66 = g := by rw [hI1, am_up_s, am_up_n _ _ (by decide), am_up_n _ _ (by decide), am_up_n _ _ (by decide)]; exact h66
        have f67 : I1 m 67 = v := by rw [hI1, am_up_s, am_up_n _ _ (by decide), am_up_n _ _ (by decide), am_up_n _ _ (by decide)]; exact h67
        have f0 : I1 m 0 = I m 0 := by rw [hI1, am_up_s, am_up_n _ _ (by decide), am_up_n _ _ (by decide), am_up_n _ _ (by decide)]
        clear hI1
        refine r_aload_n dX10_builds_15 rfl ?_
        refine r_getR dX10_builds_16 fl_X10_29 rfl (kM_0 hM) (pM_9 hM) ?_
        refine r_aload_n dX10_builds_19 rfl ?_
        refine r_getI dX10_builds_20 fl_X10_99 rfl (kM_0 hM) ?_
        rw [hb1.2.2.2.1.2]
        refine r_iconst (v := nI 1) dX10_builds_23 (by decide) ?_
        refine r_aload_n dX10_builds_24 rfl ?_
        refine r_getI dX10_builds_25 fl_X10_99 rfl (kM_0 hM) ?_
        rw [hb1.2.2.2.1.2]
        refine r_ishl dX10_builds_28 ?_
        rw [sh1_nI H (by omega)]
        refine r_iload_n dX10_builds_29 rfl ?_
        refine r_if_ne (tgt := 37) dX10_builds_30 (by decide) (fun _ => ?_) (fun hz => absurd hz (show ¬ _ from (by decide)))
        refine r_iconst (v := nI 1) dX10_builds_37 (by decide) ?_
        refine r_iload_n dX10_builds_38 rfl ?_
        refine r_ishl dX10_builds_39 ?_
        refine r_ior dX10_builds_40 ?_
        rw [show (nI (2 ^ H) ||| (nI 1 <<< (nI k &&& 31))) = nI (lkm 0 (nr2 H k c 20006)) from by rw [or_sh2 (by omega), lkm_2 hH7 hk (by omega) (by decide)]]
        refine r_iast dX10_builds_41 (aM_9 hM) (nI_in8 8 (by omega) (by decide)) (nI_clamp (by omega)) ?_
        have hb2 := hb1.lk (x := nI (lkm 0 (nr2 H k c 20006)))
        obtain ⟨I2, hI2⟩ : ∃ X : mI, X = va_up I1 (m + 6) (va_up (I1 (m + 6)) H (nI (lkm 0 (nr2 H k c 20006)))) := ⟨_, rfl⟩
        rw [← hI2] at hb2 ⊢
        have em : I2 m = I1 m := by rw [hI2, am_up_n _ _ (by omega)]
        have e6 : I2 (m + 6) H = nI (lkm 0 (nr2 H k c 20006)) := by rw [hI2, am_up_s, am_up_s]
        rw [← em] at f5 f6 f7 f66 f67 f0
        clear hI2
        refine r_aload_n dX10_builds_42 rfl ?_
        refine r_aload_n dX10_builds_43 rfl ?_
        refine r_virtE (c_X10_speaking m (H + 1) hM hb2.2.2.2.1.1 (by omega)) lk_X10_429 mc_X10_speaking dX10_builds_44 (kM_0 hM) (by decide) rfl rfl (Nat.le_of_ble_eq_true rfl) ?_
        rw [hb2.sp (sp_r (by omega) hC.2.2.1 hC.2.2.2.1)]
        refine r_iconst (v := nI 1) dX10_builds_47 (by decide) ?_
        refine r_aload_n dX10_builds_48 rfl ?_
        refine r_getI dX10_builds_49 fl_X10_99 rfl (kM_0 hM) ?_
        rw [hb2.2.2.2.1.2]
        refine r_ishl dX10_builds_52 ?_
        refine r_ior dX10_builds_53 ?_
        rw [or_sh2 (show H < 32 by omega)]
        refine r_iconst (v := nI 1) dX10_builds_54 (by decide) ?_
        refine r_iconst (v := nI 2) dX10_builds_55 (by decide) ?_
        refine r_virt (kc2 := 0) (ks2 := 0) (q_seeksF m (nr2 H k c 20006) hC hz hH7 hb2 (Or.inr ⟨k, c, 20006, hk, by omega, rfl, f6, f7, Or.inr ⟨rfl, f5⟩⟩) e6) lk_X10_432 mc_X10_seeks dX10_builds_56 (kM_0 hM) (by decide) rfl rfl (Nat.le_of_ble_eq_true rfl) (by decide) (by decide) (fun _ _ _ _ _ _ h => nomatch h.1) ?_
        rintro v4 n4 kd4 I4 J4 P4 ⟨h00, rfl, rfl, rfl, rfl, hfr, hf52⟩
        cases h00
        simp only [Option.toList, List.nil_append, List.cons_append]
        have hb4 := hb2.rf hfr
        have i66 : I4 m 66 = g := (hfr.2 66 (by decide) (by decide)).trans f66
        have i67 : I4 m 67 = v := (hfr.2 67 (by decide) (by decide)).trans f67
        have i0 : I4 m 0 = I m 0 := (hfr.2 0 (by decide) (by decide)).trans f0
        rw [gdR_2 hlen]
        rw [eq_false_of_ne_true hg]
        refine r_if_ne (tgt := 64) dX10_builds_59 (by decide) (fun _ => ?_) (fun hz => absurd hz (show ¬ _ from (by decide)))
        refine r_aload_n dX10_builds_64 rfl ?_
        refine r_getI dX10_builds_65 fl_X10_413 rfl (kM_0 hM) ?_
        rw [hf52]
        refine r_iconst (v := nI 1) dX10_builds_68 (by decide) ?_
        refine r_icmp_eq (tgt := 74) dX10_builds_69 (by decide) (fun _ => ?_) (fun hz => absurd (show _ from (by rw [c1])) hz)
        refine r_aload_n dX10_builds_74 rfl ?_
        refine r_getI dX10_builds_75 fl_X10_475 rfl (kM_0 hM) ?_
        rw [i66]
        refine r_if_ne (tgt := 105) dX10_builds_78 (by decide) (fun _ => ?_) (fun hz => absurd hz (show ¬ _ from c2))
        refine r_aload_n dX10_builds_105 rfl ?_
        refine r_dup dX10_builds_106 rfl ?_
        refine r_getI dX10_builds_107 fl_X10_475 rfl (kM_0 hM) ?_
        rw [i66]
        refine r_iconst (v := nI 1) dX10_builds_110 (by decide) ?_
        refine r_iadd dX10_builds_111 ?_
        refine r_putI dX10_builds_112 fl_X10_475 rfl rfl (kM_0 hM) ?_
        refine r_iconst (v := nI 1) dX10_builds_115 (by decide) ?_
        refine r_zret rfl dX10_builds_116 (by first | exact Or.inl rfl | exact Or.inr rfl | assumption) ?_
        rw [bSt_1 hg c1]
        refine ⟨rfl, rfl, rfl, rfl, rfl, hb4.m (j := 66) (by decide), fun j hj => ?_, ?_, ?_⟩
        · rw [am_up_s, am_up_n _ _ (by omega), hj]; exact i0
        · rw [am_up_s, am_up_s]
        · rw [am_up_s, am_up_n _ _ (by decide), if_neg c2, i67]
    · skip
      refine r_aload_n dX10_builds_0 rfl ?_
      refine r_iload_n dX10_builds_1 rfl ?_
      refine r_putI dX10_builds_2 fl_X10_393 rfl rfl (kM_0 hM) ?_
      refine r_aload_n dX10_builds_5 rfl ?_
      refine r_iload_n dX10_builds_6 rfl ?_
      refine r_putI dX10_builds_7 fl_X10_399 rfl rfl (kM_0 hM) ?_
      rw [am_up_s, am_up_up]
      refine r_aload_n dX10_builds_10 rfl ?_
      refine r_iload_n dX10_builds_11 rfl ?_
      refine r_putI dX10_builds_12 fl_X10_396 rfl rfl (kM_0 hM) ?_
      rw [am_up_s, am_up_up]
      have hb1 := ((hb.m (j := 55) (x := nI 2) (by decide)).m (j := 56) (x := nI k) (by decide)).m (j := 57) (x := nI c) (by decide)
      rw [am_up_s, am_up_s, am_up_up, am_up_up] at hb1
      obtain ⟨I1, hI1⟩ : ∃ X : mI, X = (va_up I m (va_up (va_up (va_up (I m) 55 (nI 2)) 56 (nI k)) 57 (nI c))) := ⟨_, rfl⟩
      rw [← hI1] at hb1 ⊢
      have f5 : I1 m 55 = nI 2 := by rw [hI1, am_up_s, am_up_n _ _ (by decide), am_up_n _ _ (by decide), am_up_s]
      have f6 : I1 m 56 = nI k := by rw [hI1, am_up_s, am_up_n _ _ (by decide), am_up_s]
      have f7 : I1 m 57 = nI c := by rw [hI1, am_up_s, am_up_s]
      have f66 : I1 m 66 = g := by rw [hI1, am_up_s, am_up_n _ _ (by decide), am_up_n _ _ (by decide), am_up_n _ _ (by decide)]; exact h66
      have f67 : I1 m 67 = v := by rw [hI1, am_up_s, am_up_n _ _ (by decide), am_up_n _ _ (by decide), am_up_n _ _ (by decide)]; exact h67
      have f0 : I1 m 0 = I m 0 := by rw [hI1, am_up_s, am_up_n _ _ (by decide), am_up_n _ _ (by decide), am_up_n _ _ (by decide)]
      clear hI1
      refine r_aload_n dX10_builds_15 rfl ?_
      refine r_getR dX10_builds_16 fl_X10_29 rfl (kM_0 hM) (pM_9 hM) ?_
      refine r_aload_n dX10_builds_19 rfl ?_
      refine r_getI dX10_builds_20 fl_X10_99 rfl (kM_0 hM) ?_
      rw [hb1.2.2.2.1.2]
      refine r_iconst (v := nI 1) dX10_builds_23 (by decide) ?_
      refine r_aload_n dX10_builds_24 rfl ?_
      refine r_getI dX10_builds_25 fl_X10_99 rfl (kM_0 hM) ?_
      rw [hb1.2.2.2.1.2]
      refine r_ishl dX10_builds_28 ?_
      rw [sh1_nI H (by omega)]
      refine r_iload_n dX10_builds_29 rfl ?_
      refine r_if_ne (tgt := 37) dX10_builds_30 (by decide) (fun _ => ?_) (fun hz => absurd hz (show ¬ _ from (by decide)))
      refine r_iconst (v := nI 1) dX10_builds_37 (by decide) ?_
      refine r_iload_n dX10_builds_38 rfl ?_
      refine r_ishl dX10_builds_39 ?_
      refine r_ior dX10_builds_40 ?_
      rw [show (nI (2 ^ H) ||| (nI 1 <<< (nI k &&& 31))) = nI (lkm 0 (nr2 H k c 20006)) from by rw [or_sh2 (by omega), lkm_2 hH7 hk (by omega) (by decide)]]
      refine r_iast dX10_builds_41 (aM_9 hM) (nI_in8 8 (by omega) (by decide)) (nI_clamp (by omega)) ?_
      have hb2 := hb1.lk (x := nI (lkm 0 (nr2 H k c 20006)))
      obtain ⟨I2, hI2⟩ : ∃ X : mI, X = va_up I1 (m + 6) (va_up (I1 (m + 6)) H (nI (lkm 0 (nr2 H k c 20006)))) := ⟨_, rfl⟩
      rw [← hI2] at hb2 ⊢
      have em : I2 m = I1 m := by rw [hI2, am_up_n _ _ (by omega)]
      have e6 : I2 (m + 6) H = nI (lkm 0 (nr2 H k c 20006)) := by rw [hI2, am_up_s, am_up_s]
      rw [← em] at f5 f6 f7 f66 f67 f0
      clear hI2
      refine r_aload_n dX10_builds_42 rfl ?_
      refine r_aload_n dX10_builds_43 rfl ?_
      refine r_virtE (c_X10_speaking m (H + 1) hM hb2.2.2.2.1.1 (by omega)) lk_X10_429 mc_X10_speaking dX10_builds_44 (kM_0 hM) (by decide) rfl rfl (Nat.le_of_ble_eq_true rfl) ?_
      rw [hb2.sp (sp_r (by omega) hC.2.2.1 hC.2.2.2.1)]
      refine r_iconst (v := nI 1) dX10_builds_47 (by decide) ?_
      refine r_aload_n dX10_builds_48 rfl ?_
      refine r_getI dX10_builds_49 fl_X10_99 rfl (kM_0 hM) ?_
      rw [hb2.2.2.2.1.2]
      refine r_ishl dX10_builds_52 ?_
      refine r_ior dX10_builds_53 ?_
      rw [or_sh2 (show H < 32 by omega)]
      refine r_iconst (v := nI 1) dX10_builds_54 (by decide) ?_
      refine r_iconst (v := nI 2) dX10_builds_55 (by decide) ?_
      refine r_virt (kc2 := 0) (ks2 := 0) (q_seeksF m (nr2 H k c 20006) hC hz hH7 hb2 (Or.inr ⟨k, c, 20006, hk, by omega, rfl, f6, f7, Or.inr ⟨rfl, f5⟩⟩) e6) lk_X10_432 mc_X10_seeks dX10_builds_56 (kM_0 hM) (by decide) rfl rfl (Nat.le_of_ble_eq_true rfl) (by decide) (by decide) (fun _ _ _ _ _ _ h => nomatch h.1) ?_
      rintro v4 n4 kd4 I4 J4 P4 ⟨h00, rfl, rfl, rfl, rfl, hfr, hf52⟩
      cases h00
      simp only [Option.toList, List.nil_append, List.cons_append]
      have hb4 := hb2.rf hfr
      have i66 : I4 m 66 = g := (hfr.2 66 (by decide) (by decide)).trans f66
      have i67 : I4 m 67 = v := (hfr.2 67 (by decide) (by decide)).trans f67
      have i0 : I4 m 0 = I m 0 := (hfr.2 0 (by decide) (by decide)).trans f0
      rw [gdR_2 hlen]
      rw [eq_false_of_ne_true hg]
      refine r_if_ne (tgt := 64) dX10_builds_59 (by decide) (fun _ => ?_) (fun hz => absurd hz (show ¬ _ from (by decide)))
      refine r_aload_n dX10_builds_64 rfl ?_
      refine r_getI dX10_builds_65 fl_X10_413 rfl (kM_0 hM) ?_
      rw [hf52]
      refine r_iconst (v := nI 1) dX10_builds_68 (by decide) ?_
      refine r_icmp_eq (tgt := 74) dX10_builds_69 (by decide) (fun hz => absurd hz (show ¬ _ from (fun z => c1 ((nI_eq (by omega) (by decide)).mp z)))) (fun _ => ?_)
      refine r_iconst (v := nI 1) dX10_builds_72 (by decide) ?_
      refine r_zret rfl dX10_builds_73 (by first | exact Or.inl rfl | exact Or.inr rfl | assumption) ?_
      rw [bSt_2 hg c1]
      exact ⟨rfl, rfl, rfl, rfl, rfl, hb4, fun j hj => by rw [hj]; exact i0, i66, i67⟩


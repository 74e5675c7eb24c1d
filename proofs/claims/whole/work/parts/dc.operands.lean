/-! STREET: the reference reads nots, parentheses and a part -/
theorem gTk.cg {m : Nat} {X : Nat → Int32} {I I' : mI} {J J' : mJ} {t : Tok} (h : ∀ j, 20 ≤ j → j ≤ 25 → I' m j = I m j) (hJ : J' m 26 = J m 26) (hk : gTk m X I J t) : gTk m X I' J' t := by
  unfold gTk kwV at hk ⊢
  rw [h 20 (by decide) (by decide), h 22 (by decide) (by decide), h 21 (by decide) (by decide), h 23 (by decide) (by decide), h 24 (by decide) (by decide), h 25 (by decide) (by decide), hJ]
  exact hk
theorem gIn.cg {m len : Nat} {X : Nat → Int32} {I I' : mI} (h1 : I' m 19 = I m 19) (h2 : I' (m + 11) = I (m + 11)) (h : gIn m len X I) : gIn m len X I' := by
  unfold gIn
  rw [h1, h2]
  exact h
theorem wr_eB {m : Nat} {T : RT} {I : mI} {f i top wl : Nat} (h0 : ¬ f = 0) (h4 : f < 4) (h16 : I m 16 = nI 0) (h22 : I m 22 = nI (T.2.2.2.1 i)) (h30 : I m 30 = nI top) (h31 : I m 31 = nI wl) (hb : top + wl ≤ 1100) (hl : wl ≤ 510) : eB m T (wrI m (nI f) I) f i := by
  rw [wrI_g h16]
  refine ⟨by rw [am_up_s, am_up_n _ _ (by decide), am_up_s], ⟨h0, h4⟩, by rw [am_up_s, am_up_s]; exact h22, top, wl, ?_, ?_, hb, hl⟩
  · rw [am_up_s, am_up_n _ _ (by decide), am_up_n _ _ (by decide)]; exact h30
  · rw [am_up_s, am_up_n _ _ (by decide), am_up_n _ _ (by decide)]; exact h31
/-- an act more waits, and the token behind -/
theorem eG.push {m h : Nat} {T : RT} {a0 : Nat} {C0 : Nat → Int32} {I I8 : mI} {J J8 : mJ} {i x : Nat} {out w : List Nat} {te : Nat → Bool} (hx : 20003 ≤ x ∧ x < 20012) (hf : gFr m (waI m w.length (opI x) I) I8 J J8) (hk : gTk m T.2.2.2.2.2 I8 J8 (tkAt T (i + 1))) (hi : i + 1 < T.2.1) (hg : eG m h T a0 C0 0 I J i out w te) : eG m h T a0 C0 0 I8 J8 (i + 1) out (x :: w) te := by
  obtain ⟨⟨h16, h27, hgi⟩, -, ⟨top, hC, hb⟩, h29, hW, hwi, hD⟩ := hg
  have e : ∀ j, (j < 20 ∨ 25 < j) → j ≠ 31 → I8 m j = I m j := fun j h1 h2 => (hf.2.1 j h1).trans (waI_o h2)
  have ea : ∀ a, a ≠ m → a ≠ m + 21 → I8 a = I a := fun a h1 h2 => (hf.1 a h1).trans (waI_a h1 h2)
  refine ⟨⟨(e _ (by decide) (by decide)).trans h16, (e _ (by decide) (by decide)).trans h27, hgi.cg (e _ (by decide) (by decide)) (ea _ (by omega) (by omega))⟩, ⟨hk, hi⟩, ⟨top, hC.cg (e _ (by decide) (by decide)) (ea _ (by omega) (by omega)), by simp only [List.length_cons]; omega⟩, (e _ (by decide) (by decide)).trans h29, (hW.push (Or.inr hx)).cg (hf.2.1 _ (by decide)) (hf.1 _ (by omega)), by simp only [List.length_cons]; omega, ?_⟩
  rw [opens_cons (by omega)]
  exact hD.cg (e _ (by decide) (by decide)) (ea _ (by omega) (by omega))
def dpI (m dp : Nat) (I : mI) : mI := va_up (va_up I m (va_up (I m) 32 (nI (dp + 1)))) (m + 22) (va_up (I (m + 22)) (dp + 1) (nI 0))
theorem dpI_o {m dp j : Nat} {I : mI} (h : j ≠ 32) : dpI m dp I m j = I m j := by unfold dpI; rw [am_up_n _ _ (by omega), am_up_s, am_up_n _ _ h]
theorem dpI_a {m dp a : Nat} {I : mI} (h1 : a ≠ m) (h2 : a ≠ m + 22) : dpI m dp I a = I a := by unfold dpI; rw [am_up_n _ _ h2, am_up_n _ _ h1]
theorem eFr.dp {m dp : Nat} {I : mI} {J : mJ} : eFr m I (dpI m dp I) J J := ⟨fun a h1 h2 h3 h4 => dpI_a h1 h4, fun j h1 h2 h3 h4 => dpI_o (by omega), fun _ _ => rfl, fun _ _ => rfl, kP.same (dpI_o (by decide)) (dpI_o (by decide))⟩
theorem eD.deep {m dp : Nat} {te : Nat → Bool} {I : mI} (hd : dp < 6) (h : eD m I dp te) : eD m (dpI m dp I) (dp + 1) (upT te (dp + 1) false) := by
  obtain ⟨h1, h2, h3⟩ := h
  refine ⟨?_, by omega, fun d hd1 hd2 => ?_⟩
  · unfold dpI; rw [am_up_n _ _ (by omega), am_up_s, am_up_s]
  · unfold dpI upT
    rw [am_up_s]
    by_cases q : d = dp + 1
    · rw [q, am_up_s, if_pos rfl]; rfl
    · rw [am_up_n _ _ q, if_neg q]; exact h3 d hd1 (by omega)
theorem eG.paren {m h : Nat} {T : RT} {a0 : Nat} {C0 : Nat → Int32} {I I8 : mI} {J J8 : mJ} {i : Nat} {out w : List Nat} {te : Nat → Bool} (hd : opens w + 1 < 6) (hf : gFr m (waI m w.length (opI 0) I) I8 J J8) (hk : gTk m T.2.2.2.2.2 I8 J8 (tkAt T (i + 1))) (hi : i + 1 < T.2.1) (hg : eG m h T a0 C0 0 I J i out w te) : eG m h T a0 C0 0 (dpI m (opens w + 1) I8) J8 (i + 1) out (0 :: w) (upT te (opens w + 2) false) := by
  obtain ⟨⟨h16, h27, hgi⟩, -, ⟨top, hC, hb⟩, h29, hW, hwi, hD⟩ := hg
  have e0 : ∀ j, (j < 20 ∨ 25 < j) → j ≠ 31 → I8 m j = I m j := fun j h1 h2 => (hf.2.1 j h1).trans (waI_o h2)
  have ea0 : ∀ a, a ≠ m → a ≠ m + 21 → I8 a = I a := fun a h1 h2 => (hf.1 a h1).trans (waI_a h1 h2)
  have e : ∀ j, (j < 20 ∨ 25 < j) → j ≠ 31 → j ≠ 32 → dpI m (opens w + 1) I8 m j = I m j := fun j h1 h2 h3 => (dpI_o h3).trans (e0 j h1 h2)
  have ea : ∀ a, a ≠ m → a ≠ m + 21 → a ≠ m + 22 → dpI m (opens w + 1) I8 a = I a := fun a h1 h2 h3 => (dpI_a h1 h3).trans (ea0 a h1 h2)
  refine ⟨⟨(e _ (by decide) (by decide) (by decide)).trans h16, (e _ (by decide) (by decide) (by decide)).trans h27, hgi.cg (e _ (by decide) (by decide) (by decide)) (ea _ (by omega) (by omega) (by omega))⟩, ⟨hk.cg (fun j h1 h2 => dpI_o (by omega)) rfl, hi⟩, ⟨top, hC.cg (e _ (by decide) (by decide) (by decide)) (ea _ (by omega) (by omega) (by omega)), by simp only [List.length_cons]; omega⟩, (e _ (by decide) (by decide) (by decide)).trans h29, (hW.push (Or.inl rfl)).cg ((dpI_o (by decide)).trans (hf.2.1 _ (by decide))) ((dpI_a (by omega) (by omega)).trans (hf.1 _ (by omega))), by simp only [List.length_cons]; omega, ?_⟩
  rw [show opens (0 :: w) + 1 = opens w + 1 + 1 by show 1 + opens w + 1 = _; omega]
  exact eD.deep hd (hD.cg (e0 _ (by decide) (by decide)) (ea0 _ (by omega) (by omega)))
theorem c_deepD (m dp : Nat) {n : Nat} {kd : mK} {I : mI} {J : mJ} {P : mP} (hM : kM kd P m) (h32 : I m 32 = nI dp) (hd : dp < 6) : Ct yX10_deeper cX10_deeper 1 none 3 0 0 [.ref m] n kd I J P (am_is none n kd (dpI m dp I) J P) := c_deep m dp hM h32 hd
/-- what the machine's step leaves in memory -/
def cRel (m h : Nat) (T : RT) (a0 : Nat) (C0 : Nat → Int32) (I : mI) (J : mJ) (C : Cf) : Prop := (C.1 = 2 → eG m h T a0 C0 0 I J C.2.2.1 C.2.2.2.1 C.2.2.2.2.1 C.2.2.2.2.2) ∧ (C.1 = 3 → eB m T I C.2.1 C.2.2.1)
theorem dX10_operand_0 : decode cX10_operand 0 = .ok (.iload_n 1, 1) := by decide +kernel
theorem dX10_operand_1 : decode cX10_operand 1 = .ok (.istore_n 2, 1) := by decide +kernel
theorem dX10_operand_2 : decode cX10_operand 2 = .ok (.iconst 1, 1) := by decide +kernel
theorem dX10_operand_3 : decode cX10_operand 3 = .ok (.istore_n 3, 1) := by decide +kernel
theorem dX10_operand_4 : decode cX10_operand 4 = .ok (.iload_n 3, 1) := by decide +kernel
theorem dX10_operand_5 : decode cX10_operand 5 = .ok (.ifCond .eq 115, 3) := by decide +kernel
theorem dX10_operand_8 : decode cX10_operand 8 = .ok (.aload_n 0, 1) := by decide +kernel
theorem dX10_operand_9 : decode cX10_operand 9 = .ok (.invokevirtual 252, 3) := by decide +kernel
theorem dX10_operand_12 : decode cX10_operand 12 = .ok (.ifCond .eq 108, 3) := by decide +kernel
theorem dX10_operand_15 : decode cX10_operand 15 = .ok (.iconst 0, 1) := by decide +kernel
theorem dX10_operand_16 : decode cX10_operand 16 = .ok (.istore 4, 2) := by decide +kernel
theorem dX10_operand_18 : decode cX10_operand 18 = .ok (.aload_n 0, 1) := by decide +kernel
theorem dX10_operand_19 : decode cX10_operand 19 = .ok (.invokevirtual 252, 3) := by decide +kernel
theorem dX10_operand_22 : decode cX10_operand 22 = .ok (.ifCond .eq 53, 3) := by decide +kernel
theorem dX10_operand_25 : decode cX10_operand 25 = .ok (.iload_n 2, 1) := by decide +kernel
theorem dX10_operand_26 : decode cX10_operand 26 = .ok (.ifCond .eq 49, 3) := by decide +kernel
theorem dX10_operand_29 : decode cX10_operand 29 = .ok (.aload_n 0, 1) := by decide +kernel
theorem dX10_operand_30 : decode cX10_operand 30 = .ok (.invokevirtual 262, 3) := by decide +kernel
theorem dX10_operand_33 : decode cX10_operand 33 = .ok (.bipush 12, 2) := by decide +kernel
theorem dX10_operand_35 : decode cX10_operand 35 = .ok (.if_icmp .ne 40, 3) := by decide +kernel
theorem dX10_operand_38 : decode cX10_operand 38 = .ok (.iload 4, 2) := by decide +kernel
theorem dX10_operand_40 : decode cX10_operand 40 = .ok (.bipush 6, 2) := by decide +kernel
theorem dX10_operand_42 : decode cX10_operand 42 = .ok (.if_icmp .ne 8, 3) := by decide +kernel
theorem dX10_operand_45 : decode cX10_operand 45 = .ok (.aload_n 0, 1) := by decide +kernel
theorem dX10_operand_46 : decode cX10_operand 46 = .ok (.iconst 2, 1) := by decide +kernel
theorem dX10_operand_47 : decode cX10_operand 47 = .ok (.invokevirtual 259, 3) := by decide +kernel
theorem dX10_operand_50 : decode cX10_operand 50 = .ok (.iinc 4 1, 3) := by decide +kernel
theorem dX10_operand_53 : decode cX10_operand 53 = .ok (.aload_n 0, 1) := by decide +kernel
theorem dX10_operand_54 : decode cX10_operand 54 = .ok (.invokevirtual 252, 3) := by decide +kernel
theorem dX10_operand_57 : decode cX10_operand 57 = .ok (.ifCond .ne 6, 3) := by decide +kernel
theorem dX10_operand_60 : decode cX10_operand 60 = .ok (.goto (-42), 3) := by decide +kernel
theorem dX10_operand_63 : decode cX10_operand 63 = .ok (.aload_n 0, 1) := by decide +kernel
theorem dX10_operand_64 : decode cX10_operand 64 = .ok (.iconst 3, 1) := by decide +kernel
theorem dX10_operand_65 : decode cX10_operand 65 = .ok (.invokevirtual 296, 3) := by decide +kernel
theorem dX10_operand_68 : decode cX10_operand 68 = .ok (.aload_n 0, 1) := by decide +kernel
theorem dX10_operand_69 : decode cX10_operand 69 = .ok (.invokevirtual 256, 3) := by decide +kernel
theorem dX10_operand_72 : decode cX10_operand 72 = .ok (.goto (-54), 3) := by decide +kernel
theorem dX10_operand_75 : decode cX10_operand 75 = .ok (.aload_n 0, 1) := by decide +kernel
theorem dX10_operand_76 : decode cX10_operand 76 = .ok (.invokevirtual 252, 3) := by decide +kernel
theorem dX10_operand_79 : decode cX10_operand 79 = .ok (.ifCond .eq 16, 3) := by decide +kernel
theorem dX10_operand_82 : decode cX10_operand 82 = .ok (.aload_n 0, 1) := by decide +kernel
theorem dX10_operand_83 : decode cX10_operand 83 = .ok (.bipush 40, 2) := by decide +kernel
theorem dX10_operand_85 : decode cX10_operand 85 = .ok (.invokevirtual 293, 3) := by decide +kernel
theorem dX10_operand_88 : decode cX10_operand 88 = .ok (.ifCond .eq 7, 3) := by decide +kernel
theorem dX10_operand_91 : decode cX10_operand 91 = .ok (.iconst 1, 1) := by decide +kernel
theorem dX10_operand_92 : decode cX10_operand 92 = .ok (.goto 4, 3) := by decide +kernel
theorem dX10_operand_95 : decode cX10_operand 95 = .ok (.iconst 0, 1) := by decide +kernel
theorem dX10_operand_96 : decode cX10_operand 96 = .ok (.istore_n 3, 1) := by decide +kernel
theorem dX10_operand_97 : decode cX10_operand 97 = .ok (.iload_n 3, 1) := by decide +kernel
theorem dX10_operand_98 : decode cX10_operand 98 = .ok (.ifCond .eq 19, 3) := by decide +kernel
theorem dX10_operand_101 : decode cX10_operand 101 = .ok (.aload_n 0, 1) := by decide +kernel
theorem dX10_operand_102 : decode cX10_operand 102 = .ok (.bipush 14, 2) := by decide +kernel
theorem dX10_operand_104 : decode cX10_operand 104 = .ok (.invokevirtual 296, 3) := by decide +kernel
theorem dX10_operand_107 : decode cX10_operand 107 = .ok (.aload_n 0, 1) := by decide +kernel
theorem dX10_operand_108 : decode cX10_operand 108 = .ok (.invokevirtual 256, 3) := by decide +kernel
theorem dX10_operand_111 : decode cX10_operand 111 = .ok (.aload_n 0, 1) := by decide +kernel
theorem dX10_operand_112 : decode cX10_operand 112 = .ok (.invokevirtual 299, 3) := by decide +kernel
theorem dX10_operand_115 : decode cX10_operand 115 = .ok (.iconst 1, 1) := by decide +kernel
theorem dX10_operand_116 : decode cX10_operand 116 = .ok (.istore_n 2, 1) := by decide +kernel
theorem dX10_operand_117 : decode cX10_operand 117 = .ok (.goto (-113), 3) := by decide +kernel
theorem dX10_operand_120 : decode cX10_operand 120 = .ok (.aload_n 0, 1) := by decide +kernel
theorem dX10_operand_121 : decode cX10_operand 121 = .ok (.invokevirtual 302, 3) := by decide +kernel
theorem dX10_operand_124 : decode cX10_operand 124 = .ok (.return_, 1) := by decide +kernel

set_option maxHeartbeats 4000000 in
set_option maxRecDepth 100000 in
theorem w_oper {m h : Nat} {T : RT} {a0 : Nat} {C0 : Nat → Int32} {n : Nat} {kd : mK} {P : mP} {I0 : mI} {J0 : mJ} {C9 : Cf} {mn : Int32} (hM : kM kd P m) (hT : tkA T) (hh : h < 8) : ∀ (k md c i : Nat) (out w : List Nat) (te : Nat → Bool) (I : mI) (J : mJ), md < 2 → c ≤ 6 → (∀ j, j < k → (itr (stp T h) j (md, c, i, out, w, te)).1 < 2) → itr (stp T h) k (md, c, i, out, w, te) = C9 → ¬ C9.1 < 2 → eG m h T a0 C0 0 I J i out w te → eFr m I0 I J0 J → Ru yX10_operand.cls cX10_operand 5 none yX10_operand.name 10 ((fun z n' kd' I' J' P' => z = .inl none ∧ n' = n ∧ kd' = kd ∧ P' = P ∧ eFr m I0 I' J0 J' ∧ cRel m h T a0 C0 I' J' C9)) 0 0 18 [some (.ref m), some (.int mn), some (.int (nI md)), some (.int (nI 1)), some (.int (nI c))] [] n kd I J P
  | 0, md, c, i, out, w, te, I, J, hmd, hc6, hjs, hC9, hn9, hg, hf => by
    rw [← hC9] at hn9
    exact absurd hmd hn9
  | k + 1, md, c, i, out, w, te, I, J, hmd, hc6, hjs, hC9, hn9, hg, hf => by
    have hg0 := hg
    obtain ⟨⟨h16, h27, hgi⟩, ⟨hk, hi⟩, ⟨top, hC, hb⟩, h29, hW, hwi, hD⟩ := hg
    have h501 := hT.1.1.1
    have to75 : ¬ (md = 1 ∧ tkK T i = nI 135) → Ru yX10_operand.cls cX10_operand 5 none yX10_operand.name 10 ((fun z n' kd' I' J' P' => z = .inl none ∧ n' = n ∧ kd' = kd ∧ P' = P ∧ eFr m I0 I' J0 J' ∧ cRel m h T a0 C0 I' J' C9)) 0 0 75 [some (.ref m), some (.int mn), some (.int (nI md)), some (.int (nI 1)), some (.int (nI c))] [] n kd I J P := by
      intro hnn
      have hs : stp T h (md, c, i, out, w, te) = stO T h md c i out w te := stp_O hmd
      unfold stO at hs
      rw [if_neg hnn] at hs
      by_cases c40 : tkK T i = nI 40
      · rw [if_pos c40] at hs
        have hi2 : i + 1 < T.2.1 := hT.1.2.1 i (by rw [c40]; decide)
        by_cases hd6 : opens w + 1 < 6
        · rw [if_pos hd6] at hs
          refine r_aload_n dX10_operand_75 rfl ?_
          refine r_virtE (c_good m hM) lk_X10_252 mc_X10_isGood dX10_operand_76 (kM_0 hM) (by decide) rfl rfl (Nat.le_of_ble_eq_true rfl) ?_
          rw [h16, show decide (nI 0 = 0) = true from rfl]
          refine r_if_eq (tgt := 95) dX10_operand_79 (by decide) (fun hz => absurd hz (show ¬ _ from (by decide))) (fun _ => ?_)
          refine r_aload_n dX10_operand_82 rfl ?_
          refine r_bipush (v := nI 40) dX10_operand_83 (by decide) ?_
          refine r_virtE (c_sign m (nI 40) hM) lk_X10_293 mc_X10_isSign dX10_operand_85 (kM_0 hM) (by decide) rfl rfl (Nat.le_of_ble_eq_true rfl) ?_
          rw [hk.sg (c := 40) (by decide)]
          rw [show decide ((tkAt T i).1 = nI 40) = true from decide_eq_true c40]
          refine r_if_eq (tgt := 95) dX10_operand_88 (by decide) (fun hz => absurd hz (show ¬ _ from (by decide))) (fun _ => ?_)
          refine r_iconst (v := nI 1) dX10_operand_91 (by decide) ?_
          refine r_goto (tgt := 96) dX10_operand_92 (by decide) ?_
          refine r_istore_n dX10_operand_96 (by decide) ?_
          refine r_iload_n dX10_operand_97 rfl ?_
          refine r_if_eq (tgt := 117) dX10_operand_98 (by decide) (fun hz => absurd hz (show ¬ _ from (by decide))) (fun _ => ?_)
          refine r_aload_n dX10_operand_101 rfl ?_
          refine r_bipush (v := nI 14) dX10_operand_102 (by decide) ?_
          refine r_virtV (c_waI m w.length (opI 0) hM hW.1 (by omega)) lk_X10_296 mc_X10_waitsFor dX10_operand_104 (kM_0 hM) (by decide) rfl rfl (Nat.le_of_ble_eq_true rfl) ?_
          refine r_aload_n dX10_operand_107 rfl ?_
          refine r_virt (kc2 := 0) (ks2 := 0) (c_goesT m i hM hT (hgi.cg (waI_o (by decide)) (waI_a (by omega) (by omega))) (hk.cg (fun j h1 h2 => waI_o (by omega)) rfl) hi2) lk_X10_256 mc_X10_goes dX10_operand_108 (kM_0 hM) (by decide) rfl rfl (Nat.le_of_ble_eq_true rfl) (by decide) (by decide) (fun _ _ _ _ _ _ h => nomatch h.1) ?_
          rintro v8 n8 kd8 I8 J8 P8 ⟨h00, rfl, rfl, rfl, hf8, hk8⟩
          cases h00
          simp only [Option.toList, List.nil_append]
          refine r_aload_n dX10_operand_111 rfl ?_
          refine r_virtV (c_deepD m (opens w + 1) hM (by rw [hf8.2.1 32 (by decide), waI_o (by decide)]; exact hD.1) hd6) lk_X10_299 mc_X10_deeper dX10_operand_112 (kM_0 hM) (by decide) rfl rfl (Nat.le_of_ble_eq_true rfl) ?_
          have hg9 := hg0.paren hd6 hf8 hk8 hi2
          refine r_iconst (v := nI 1) dX10_operand_115 (by decide) ?_
          refine r_istore_n dX10_operand_116 (by decide) ?_
          refine r_goto (tgt := 4) dX10_operand_117 (by decide) ?_
          refine r_iload_n dX10_operand_4 rfl ?_
          refine r_if_eq (tgt := 120) dX10_operand_5 (by decide) (fun hz => absurd hz (show ¬ _ from (by decide))) (fun _ => ?_)
          refine r_aload_n dX10_operand_8 rfl ?_
          refine r_virtE (c_good m hM) lk_X10_252 mc_X10_isGood dX10_operand_9 (kM_0 hM) (by decide) rfl rfl (Nat.le_of_ble_eq_true rfl) ?_
          rw [hg9.1.1, show decide (nI 0 = 0) = true from rfl]
          refine r_if_eq (tgt := 120) dX10_operand_12 (by decide) (fun hz => absurd hz (show ¬ _ from (by decide))) (fun _ => ?_)
          refine r_iconst (v := nI 0) dX10_operand_15 (by decide) ?_
          refine r_istore dX10_operand_16 (by decide) ?_
          exact w_oper hM hT hh k 1 0 (i + 1) out (0 :: w) (upT te (opens w + 2) false) _ J8 (by decide) (by decide) (fun j hj => by have := hjs (j + 1) (by omega); rw [show itr (stp T h) (j + 1) (md, c, i, out, w, te) = itr (stp T h) j (stp T h (md, c, i, out, w, te)) from rfl, hs] at this; exact this) (by rw [← hC9]; show _ = itr (stp T h) k (stp T h (md, c, i, out, w, te)); rw [hs]) hn9 hg9 (((hf.tr eFr.wa).tr hf8.e).tr eFr.dp)
        · rw [if_neg hd6] at hs
          have hCe : C9 = (3, if tkK T (i + 1) = nI 2 ∨ ¬ tkK T (i + 1) < nI 128 ∨ tkK T (i + 1) = nI 40 then 2 else 1, i + 1, out, 0 :: w, te) := (by
        cases k with
        | zero => rw [← hC9]; show stp T h (md, c, i, out, w, te) = _; rw [hs]
        | succ k' =>
          exfalso
          have := hjs 1 (by omega)
          rw [show itr (stp T h) 1 (md, c, i, out, w, te) = stp T h (md, c, i, out, w, te) from rfl, hs] at this
          exact absurd this (by show ¬ (3 : Nat) < 2; decide))
          refine r_aload_n dX10_operand_75 rfl ?_
          refine r_virtE (c_good m hM) lk_X10_252 mc_X10_isGood dX10_operand_76 (kM_0 hM) (by decide) rfl rfl (Nat.le_of_ble_eq_true rfl) ?_
          rw [h16, show decide (nI 0 = 0) = true from rfl]
          refine r_if_eq (tgt := 95) dX10_operand_79 (by decide) (fun hz => absurd hz (show ¬ _ from (by decide))) (fun _ => ?_)
          refine r_aload_n dX10_operand_82 rfl ?_
          refine r_bipush (v := nI 40) dX10_operand_83 (by decide) ?_
          refine r_virtE (c_sign m (nI 40) hM) lk_X10_293 mc_X10_isSign dX10_operand_85 (kM_0 hM) (by decide) rfl rfl (Nat.le_of_ble_eq_true rfl) ?_
          rw [hk.sg (c := 40) (by decide)]
          rw [show decide ((tkAt T i).1 = nI 40) = true from decide_eq_true c40]
          refine r_if_eq (tgt := 95) dX10_operand_88 (by decide) (fun hz => absurd hz (show ¬ _ from (by decide))) (fun _ => ?_)
          refine r_iconst (v := nI 1) dX10_operand_91 (by decide) ?_
          refine r_goto (tgt := 96) dX10_operand_92 (by decide) ?_
          refine r_istore_n dX10_operand_96 (by decide) ?_
          refine r_iload_n dX10_operand_97 rfl ?_
          refine r_if_eq (tgt := 117) dX10_operand_98 (by decide) (fun hz => absurd hz (show ¬ _ from (by decide))) (fun _ => ?_)
          refine r_aload_n dX10_operand_101 rfl ?_
          refine r_bipush (v := nI 14) dX10_operand_102 (by decide) ?_
          refine r_virtV (c_waI m w.length (opI 0) hM hW.1 (by omega)) lk_X10_296 mc_X10_waitsFor dX10_operand_104 (kM_0 hM) (by decide) rfl rfl (Nat.le_of_ble_eq_true rfl) ?_
          refine r_aload_n dX10_operand_107 rfl ?_
          refine r_virt (kc2 := 0) (ks2 := 0) (c_goesT m i hM hT (hgi.cg (waI_o (by decide)) (waI_a (by omega) (by omega))) (hk.cg (fun j h1 h2 => waI_o (by omega)) rfl) hi2) lk_X10_256 mc_X10_goes dX10_operand_108 (kM_0 hM) (by decide) rfl rfl (Nat.le_of_ble_eq_true rfl) (by decide) (by decide) (fun _ _ _ _ _ _ h => nomatch h.1) ?_
          rintro v8 n8 kd8 I8 J8 P8 ⟨h00, rfl, rfl, rfl, hf8, hk8⟩
          cases h00
          simp only [Option.toList, List.nil_append]
          refine r_aload_n dX10_operand_111 rfl ?_
          have hB := wr_eB (f := if tkK T (i + 1) = nI 2 ∨ ¬ tkK T (i + 1) < nI 128 ∨ tkK T (i + 1) = nI 40 then 2 else 1) (wl := w.length + 1) (T := T) (i := i + 1) (by split <;> decide) (by split <;> decide) ((hf8.2.1 16 (by decide)).trans ((waI_o (by decide)).trans h16)) hk8.2.1 ((hf8.2.1 30 (by decide)).trans ((waI_o (by decide)).trans hC.1)) ((hf8.2.1 31 (by decide)).trans waI_31) (by omega) (by omega)
          rw [show nI (if tkK T (i + 1) = nI 2 ∨ ¬ tkK T (i + 1) < nI 128 ∨ tkK T (i + 1) = nI 40 then 2 else 1) = (if (tkAt T (i + 1)).1 = nI 2 ∨ ¬ (tkAt T (i + 1)).1 < nI 128 ∨ (tkAt T (i + 1)).1 = nI 40 then nI 2 else nI 1) from by show _ = (if tkK T (i + 1) = nI 2 ∨ ¬ tkK T (i + 1) < nI 128 ∨ tkK T (i + 1) = nI 40 then nI 2 else nI 1); split <;> rfl] at hB
          refine r_virtV (c_deepB m hM (by rw [hf8.2.1 32 (by decide), waI_o (by decide), hD.1, show opens w + 1 = 6 by have := hD.2.1; omega]) hk8) lk_X10_299 mc_X10_deeper dX10_operand_112 (kM_0 hM) (by decide) rfl rfl (Nat.le_of_ble_eq_true rfl) ?_
          refine r_iconst (v := nI 1) dX10_operand_115 (by decide) ?_
          refine r_istore_n dX10_operand_116 (by decide) ?_
          refine r_goto (tgt := 4) dX10_operand_117 (by decide) ?_
          refine r_iload_n dX10_operand_4 rfl ?_
          refine r_if_eq (tgt := 120) dX10_operand_5 (by decide) (fun hz => absurd hz (show ¬ _ from (by decide))) (fun _ => ?_)
          refine r_aload_n dX10_operand_8 rfl ?_
          refine r_virtE (c_good m hM) lk_X10_252 mc_X10_isGood dX10_operand_9 (kM_0 hM) (by decide) rfl rfl (Nat.le_of_ble_eq_true rfl) ?_
          rw [hB.bad]
          refine r_if_eq (tgt := 120) dX10_operand_12 (by decide) (fun _ => ?_) (fun hz => absurd (show _ from rfl) hz)
          refine r_aload_n dX10_operand_120 rfl ?_
          refine r_virtV (c_partB hM hB) lk_X10_302 mc_X10_part dX10_operand_121 (kM_0 hM) (by decide) rfl rfl (Nat.le_of_ble_eq_true rfl) ?_
          refine r_vret rfl dX10_operand_124 ?_
          exact ⟨rfl, rfl, rfl, rfl, ((hf.tr eFr.wa).tr hf8.e).tr (eFr.wr (by split <;> decide)), ⟨fun q => absurd q (by rw [hCe]; show ¬ (3 : Nat) = 2; decide), fun _ => by rw [hCe]; exact hB⟩⟩
      · rw [if_neg c40] at hs
        have hCe : C9 = (if (pAtom T h i).1 = 0 then (2, 0, (pAtom T h i).2.1, out ++ (pAtom T h i).2.2, w, te) else (3, (pAtom T h i).1, (pAtom T h i).2.1, out, w, te)) := (by
        cases k with
        | zero => rw [← hC9]; show stp T h (md, c, i, out, w, te) = _; rw [hs]
        | succ k' =>
          exfalso
          have := hjs 1 (by omega)
          rw [show itr (stp T h) 1 (md, c, i, out, w, te) = stp T h (md, c, i, out, w, te) from rfl, hs] at this
          exact absurd this (by split; (show ¬ (2 : Nat) < 2; decide); (show ¬ (3 : Nat) < 2; decide)))
        refine r_aload_n dX10_operand_75 rfl ?_
        refine r_virtE (c_good m hM) lk_X10_252 mc_X10_isGood dX10_operand_76 (kM_0 hM) (by decide) rfl rfl (Nat.le_of_ble_eq_true rfl) ?_
        rw [h16, show decide (nI 0 = 0) = true from rfl]
        refine r_if_eq (tgt := 95) dX10_operand_79 (by decide) (fun hz => absurd hz (show ¬ _ from (by decide))) (fun _ => ?_)
        refine r_aload_n dX10_operand_82 rfl ?_
        refine r_bipush (v := nI 40) dX10_operand_83 (by decide) ?_
        refine r_virtE (c_sign m (nI 40) hM) lk_X10_293 mc_X10_isSign dX10_operand_85 (kM_0 hM) (by decide) rfl rfl (Nat.le_of_ble_eq_true rfl) ?_
        rw [hk.sg (c := 40) (by decide)]
        rw [show decide ((tkAt T i).1 = nI 40) = false from decide_eq_false c40]
        refine r_if_eq (tgt := 95) dX10_operand_88 (by decide) (fun _ => ?_) (fun hz => absurd (show _ from rfl) hz)
        refine r_iconst (v := nI 0) dX10_operand_95 (by decide) ?_
        refine r_istore_n dX10_operand_96 (by decide) ?_
        refine r_iload_n dX10_operand_97 rfl ?_
        refine r_if_eq (tgt := 117) dX10_operand_98 (by decide) (fun _ => ?_) (fun hz => absurd (show _ from rfl) hz)
        refine r_goto (tgt := 4) dX10_operand_117 (by decide) ?_
        refine r_iload_n dX10_operand_4 rfl ?_
        refine r_if_eq (tgt := 120) dX10_operand_5 (by decide) (fun _ => ?_) (fun hz => absurd (show _ from rfl) hz)
        refine r_aload_n dX10_operand_120 rfl ?_
        refine r_virt (kc2 := 0) (ks2 := 0) (c_partR hM hT hh hg0) lk_X10_302 mc_X10_part dX10_operand_121 (kM_0 hM) (by decide) rfl rfl (Nat.le_of_ble_eq_true rfl) (by decide) (by decide) (fun _ _ _ _ _ _ h => nomatch h.1) ?_
        rintro v1 n1 kd1 I1 J1 P1 ⟨h00, rfl, rfl, rfl, hf1, hy1, hn1⟩
        cases h00
        simp only [Option.toList, List.nil_append]
        refine r_vret rfl dX10_operand_124 ?_
        refine ⟨rfl, rfl, rfl, rfl, hf.tr hf1, ?_⟩
        rw [hCe]
        by_cases h0 : (pAtom T h i).1 = 0
        · rw [if_pos h0]
          exact ⟨fun _ => hy1 h0, fun q => absurd q (by show ¬ (2 : Nat) = 3; decide)⟩
        · rw [if_neg h0]
          exact ⟨fun q => absurd q (by show ¬ (3 : Nat) = 2; decide), fun _ => hn1 h0⟩
    by_cases hm0 : md = 0
    · have hnn : ¬ (md = 1 ∧ tkK T i = nI 135) := fun q => by omega
      refine r_aload_n dX10_operand_18 rfl ?_
      refine r_virtE (c_good m hM) lk_X10_252 mc_X10_isGood dX10_operand_19 (kM_0 hM) (by decide) rfl rfl (Nat.le_of_ble_eq_true rfl) ?_
      rw [h16, show decide (nI 0 = 0) = true from rfl]
      refine r_if_eq (tgt := 75) dX10_operand_22 (by decide) (fun hz => absurd hz (show ¬ _ from (by decide))) (fun _ => ?_)
      refine r_iload_n dX10_operand_25 rfl ?_
      refine r_if_eq (tgt := 75) dX10_operand_26 (by decide) (fun _ => ?_) (fun hz => absurd (show _ from (by rw [hm0]; rfl)) hz)
      exact to75 hnn
    · have hm1 : md = 1 := by omega
      by_cases c135 : tkK T i = nI 135
      · have hs : stp T h (md, c, i, out, w, te) = stO T h md c i out w te := stp_O hmd
        unfold stO at hs
        rw [if_pos ⟨hm1, c135⟩] at hs
        have hi2 : i + 1 < T.2.1 := hT.1.2.1 i (by rw [c135]; decide)
        by_cases c6 : c = 6
        · rw [if_pos c6] at hs
          have hCe : C9 = (3, 2, i, out, w, te) := (by
      cases k with
      | zero => rw [← hC9]; show stp T h (md, c, i, out, w, te) = _; rw [hs]
      | succ k' =>
        exfalso
        have := hjs 1 (by omega)
        rw [show itr (stp T h) 1 (md, c, i, out, w, te) = stp T h (md, c, i, out, w, te) from rfl, hs] at this
        exact absurd this (by show ¬ (3 : Nat) < 2; decide))
          have hB := hg0.wrong hT (by decide) (f := 2) (by decide) (by decide)
          refine r_aload_n dX10_operand_18 rfl ?_
          refine r_virtE (c_good m hM) lk_X10_252 mc_X10_isGood dX10_operand_19 (kM_0 hM) (by decide) rfl rfl (Nat.le_of_ble_eq_true rfl) ?_
          rw [h16, show decide (nI 0 = 0) = true from rfl]
          refine r_if_eq (tgt := 75) dX10_operand_22 (by decide) (fun hz => absurd hz (show ¬ _ from (by decide))) (fun _ => ?_)
          refine r_iload_n dX10_operand_25 rfl ?_
          refine r_if_eq (tgt := 75) dX10_operand_26 (by decide) (fun hz => absurd hz (show ¬ _ from (by rw [hm1]; decide))) (fun _ => ?_)
          refine r_aload_n dX10_operand_29 rfl ?_
          refine r_virtE (c_known m (kwI (tkK T i)) hM hk.2.2.1.symm) lk_X10_262 mc_X10_knownWord dX10_operand_30 (kM_0 hM) (by decide) rfl rfl (Nat.le_of_ble_eq_true rfl) ?_
          rw [show kwI (tkK T i) = nI 12 from by rw [c135]; rfl]
          refine r_bipush (v := nI 12) dX10_operand_33 (by decide) ?_
          refine r_icmp_ne (tgt := 75) dX10_operand_35 (by decide) (fun hz => absurd (show _ from rfl) hz) (fun _ => ?_)
          refine r_iload dX10_operand_38 rfl ?_
          refine r_bipush (v := nI 6) dX10_operand_40 (by decide) ?_
          refine r_icmp_ne (tgt := 50) dX10_operand_42 (by decide) (fun hz => absurd (show _ from (by rw [c6])) hz) (fun _ => ?_)
          refine r_aload_n dX10_operand_45 rfl ?_
          refine r_iconst (v := nI 2) dX10_operand_46 (by decide) ?_
          refine r_virtV (c_wrong m (nI 2) hM) lk_X10_259 mc_X10_wrong dX10_operand_47 (kM_0 hM) (by decide) rfl rfl (Nat.le_of_ble_eq_true rfl) ?_
          refine r_iinc (v := nI (c + 1)) dX10_operand_50 rfl (nI_inc c) ?_
          refine r_aload_n dX10_operand_53 rfl ?_
          refine r_virtE (c_good m hM) lk_X10_252 mc_X10_isGood dX10_operand_54 (kM_0 hM) (by decide) rfl rfl (Nat.le_of_ble_eq_true rfl) ?_
          rw [hB.bad]
          refine r_if_ne (tgt := 63) dX10_operand_57 (by decide) (fun hz => absurd (show _ from rfl) hz) (fun _ => ?_)
          refine r_goto (tgt := 18) dX10_operand_60 (by decide) ?_
          refine r_aload_n dX10_operand_18 rfl ?_
          refine r_virtE (c_good m hM) lk_X10_252 mc_X10_isGood dX10_operand_19 (kM_0 hM) (by decide) rfl rfl (Nat.le_of_ble_eq_true rfl) ?_
          rw [hB.bad]
          refine r_if_eq (tgt := 75) dX10_operand_22 (by decide) (fun _ => ?_) (fun hz => absurd (show _ from rfl) hz)
          refine r_aload_n dX10_operand_75 rfl ?_
          refine r_virtE (c_good m hM) lk_X10_252 mc_X10_isGood dX10_operand_76 (kM_0 hM) (by decide) rfl rfl (Nat.le_of_ble_eq_true rfl) ?_
          rw [hB.bad]
          refine r_if_eq (tgt := 95) dX10_operand_79 (by decide) (fun _ => ?_) (fun hz => absurd (show _ from rfl) hz)
          refine r_iconst (v := nI 0) dX10_operand_95 (by decide) ?_
          refine r_istore_n dX10_operand_96 (by decide) ?_
          refine r_iload_n dX10_operand_97 rfl ?_
          refine r_if_eq (tgt := 117) dX10_operand_98 (by decide) (fun _ => ?_) (fun hz => absurd (show _ from rfl) hz)
          refine r_goto (tgt := 4) dX10_operand_117 (by decide) ?_
          refine r_iload_n dX10_operand_4 rfl ?_
          refine r_if_eq (tgt := 120) dX10_operand_5 (by decide) (fun _ => ?_) (fun hz => absurd (show _ from rfl) hz)
          refine r_aload_n dX10_operand_120 rfl ?_
          refine r_virtV (c_partB hM hB) lk_X10_302 mc_X10_part dX10_operand_121 (kM_0 hM) (by decide) rfl rfl (Nat.le_of_ble_eq_true rfl) ?_
          refine r_vret rfl dX10_operand_124 ?_
          exact ⟨rfl, rfl, rfl, rfl, hf.tr eFr.wr, ⟨fun q => absurd q (by rw [hCe]; show ¬ (3 : Nat) = 2; decide), fun _ => by rw [hCe]; exact hB⟩⟩
        · rw [if_neg c6] at hs
          refine r_aload_n dX10_operand_18 rfl ?_
          refine r_virtE (c_good m hM) lk_X10_252 mc_X10_isGood dX10_operand_19 (kM_0 hM) (by decide) rfl rfl (Nat.le_of_ble_eq_true rfl) ?_
          rw [h16, show decide (nI 0 = 0) = true from rfl]
          refine r_if_eq (tgt := 75) dX10_operand_22 (by decide) (fun hz => absurd hz (show ¬ _ from (by decide))) (fun _ => ?_)
          refine r_iload_n dX10_operand_25 rfl ?_
          refine r_if_eq (tgt := 75) dX10_operand_26 (by decide) (fun hz => absurd hz (show ¬ _ from (by rw [hm1]; decide))) (fun _ => ?_)
          refine r_aload_n dX10_operand_29 rfl ?_
          refine r_virtE (c_known m (kwI (tkK T i)) hM hk.2.2.1.symm) lk_X10_262 mc_X10_knownWord dX10_operand_30 (kM_0 hM) (by decide) rfl rfl (Nat.le_of_ble_eq_true rfl) ?_
          rw [show kwI (tkK T i) = nI 12 from by rw [c135]; rfl]
          refine r_bipush (v := nI 12) dX10_operand_33 (by decide) ?_
          refine r_icmp_ne (tgt := 75) dX10_operand_35 (by decide) (fun hz => absurd (show _ from rfl) hz) (fun _ => ?_)
          refine r_iload dX10_operand_38 rfl ?_
          refine r_bipush (v := nI 6) dX10_operand_40 (by decide) ?_
          refine r_icmp_ne (tgt := 50) dX10_operand_42 (by decide) (fun _ => ?_) (fun hz => absurd hz (show ¬ _ from (fun z => c6 ((nI_eq (by omega) (by decide)).mp z))))
          refine r_iinc (v := nI (c + 1)) dX10_operand_50 rfl (nI_inc c) ?_
          refine r_aload_n dX10_operand_53 rfl ?_
          refine r_virtE (c_good m hM) lk_X10_252 mc_X10_isGood dX10_operand_54 (kM_0 hM) (by decide) rfl rfl (Nat.le_of_ble_eq_true rfl) ?_
          rw [h16, show decide (nI 0 = 0) = true from rfl]
          refine r_if_ne (tgt := 63) dX10_operand_57 (by decide) (fun _ => ?_) (fun hz => absurd hz (show ¬ _ from (by decide)))
          refine r_aload_n dX10_operand_63 rfl ?_
          refine r_iconst (v := nI 3) dX10_operand_64 (by decide) ?_
          refine r_virtV (c_waI m w.length (opI 20003) hM hW.1 (by omega)) lk_X10_296 mc_X10_waitsFor dX10_operand_65 (kM_0 hM) (by decide) rfl rfl (Nat.le_of_ble_eq_true rfl) ?_
          refine r_aload_n dX10_operand_68 rfl ?_
          refine r_virt (kc2 := 0) (ks2 := 0) (c_goesT m i hM hT (hgi.cg (waI_o (by decide)) (waI_a (by omega) (by omega))) (hk.cg (fun j h1 h2 => waI_o (by omega)) rfl) hi2) lk_X10_256 mc_X10_goes dX10_operand_69 (kM_0 hM) (by decide) rfl rfl (Nat.le_of_ble_eq_true rfl) (by decide) (by decide) (fun _ _ _ _ _ _ h => nomatch h.1) ?_
          rintro v8 n8 kd8 I8 J8 P8 ⟨h00, rfl, rfl, rfl, hf8, hk8⟩
          cases h00
          simp only [Option.toList, List.nil_append]
          refine r_goto (tgt := 18) dX10_operand_72 (by decide) ?_
          have hg9 := hg0.push (x := 20003) (by decide) hf8 hk8 hi2
          rw [hm1]
          exact w_oper hM hT hh k 1 (c + 1) (i + 1) out (20003 :: w) te _ J8 (by decide) (by omega) (fun j hj => by have := hjs (j + 1) (by omega); rw [show itr (stp T h) (j + 1) (md, c, i, out, w, te) = itr (stp T h) j (stp T h (md, c, i, out, w, te)) from rfl, hs] at this; exact this) (by rw [← hC9]; show _ = itr (stp T h) k (stp T h (md, c, i, out, w, te)); rw [hs]) hn9 hg9 ((hf.tr eFr.wa).tr hf8.e)
      · have hnn : ¬ (md = 1 ∧ tkK T i = nI 135) := fun q => c135 q.2
        refine r_aload_n dX10_operand_18 rfl ?_
        refine r_virtE (c_good m hM) lk_X10_252 mc_X10_isGood dX10_operand_19 (kM_0 hM) (by decide) rfl rfl (Nat.le_of_ble_eq_true rfl) ?_
        rw [h16, show decide (nI 0 = 0) = true from rfl]
        refine r_if_eq (tgt := 75) dX10_operand_22 (by decide) (fun hz => absurd hz (show ¬ _ from (by decide))) (fun _ => ?_)
        refine r_iload_n dX10_operand_25 rfl ?_
        refine r_if_eq (tgt := 75) dX10_operand_26 (by decide) (fun hz => absurd hz (show ¬ _ from (by rw [hm1]; decide))) (fun _ => ?_)
        refine r_aload_n dX10_operand_29 rfl ?_
        refine r_virtE (c_known m (kwI (tkK T i)) hM hk.2.2.1.symm) lk_X10_262 mc_X10_knownWord dX10_operand_30 (kM_0 hM) (by decide) rfl rfl (Nat.le_of_ble_eq_true rfl) ?_
        refine r_bipush (v := nI 12) dX10_operand_33 (by decide) ?_
        refine r_icmp_ne (tgt := 75) dX10_operand_35 (by decide) (fun _ => ?_) (fun hz => absurd hz (show ¬ _ from (kwI_12 c135)))
        exact to75 hnn

set_option maxHeartbeats 4000000 in
set_option maxRecDepth 100000 in
theorem c_oper {m h : Nat} {T : RT} {a0 : Nat} {C0 : Nat → Int32} {C9 : Cf} (k md i : Nat) {out w : List Nat} {te : Nat → Bool} {n : Nat} {kd : mK} {I : mI} {J : mJ} {P : mP} (hM : kM kd P m) (hT : tkA T) (hh : h < 8) (hmd : md < 2) (hjs : ∀ j, j < k → (itr (stp T h) j (md, 0, i, out, w, te)).1 < 2) (hC9 : itr (stp T h) k (md, 0, i, out, w, te) = C9) (hn9 : ¬ C9.1 < 2) (hg : eG m h T a0 C0 0 I J i out w te) : Ct yX10_operand cX10_operand 5 none 10 0 0 [.ref m, .int (nI md)] n kd I J P (fun z n' kd' I' J' P' => z = .inl none ∧ n' = n ∧ kd' = kd ∧ P' = P ∧ eFr m I I' J J' ∧ cRel m h T a0 C0 I' J' C9) := by
  refine ct_of 3 (by decide +kernel) (Nat.le_of_ble_eq_true rfl) rfl ?_
  refine r_iload_n dX10_operand_0 rfl ?_
  refine r_istore_n dX10_operand_1 (by decide) ?_
  refine r_iconst (v := nI 1) dX10_operand_2 (by decide) ?_
  refine r_istore_n dX10_operand_3 (by decide) ?_
  refine r_iload_n dX10_operand_4 rfl ?_
  refine r_if_eq (tgt := 120) dX10_operand_5 (by decide) (fun hz => absurd hz (show ¬ _ from (by decide))) (fun _ => ?_)
  refine r_aload_n dX10_operand_8 rfl ?_
  refine r_virtE (c_good m hM) lk_X10_252 mc_X10_isGood dX10_operand_9 (kM_0 hM) (by decide) rfl rfl (Nat.le_of_ble_eq_true rfl) ?_
  rw [hg.1.1, show decide (nI 0 = 0) = true from rfl]
  refine r_if_eq (tgt := 120) dX10_operand_12 (by decide) (fun hz => absurd hz (show ¬ _ from (by decide))) (fun _ => ?_)
  refine r_iconst (v := nI 0) dX10_operand_15 (by decide) ?_
  refine r_istore dX10_operand_16 (by decide) ?_
  exact w_oper hM hT hh k md 0 i out w te I J hmd (by decide) hjs hC9 hn9 hg eFr.rf


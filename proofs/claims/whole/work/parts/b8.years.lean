/-! YEARS, on any state, both sides -/
def yrS (H : Nat) (sd : Int32) (S : Nat → Nat) : Nat → Nat := fun j => if j = dv (lcg sd) % H then dv (lcg (lcg sd)) % 10 else S j
def yrR (H M : Nat) (un : Bool) (cs : Nat → List Nat) (e : Lf) (sd : Int32) (S : Nat → Nat) : Nat × List (Nat → Nat) × Bool := zR H M un cs (yrS H sd S, e.2) (nI (spB H cs e)) (nI 1) 2
def yrN (H M : Nat) (un : Bool) (cs : Nat → List Nat) (e : Lf) : Nat → Int32 → Nat → (Nat → Nat) → Int32
  | 0, _, v, _ => nI v
  | c + 1, sd, v, S => if (yrR H M un cs e sd S).2.2 = true then -2 else yrN H M un cs e c (lcg (lcg sd)) (v + if (yrR H M un cs e sd S).2.1.length = 1 then 1 else 0) (yrS H sd S)
theorem zR_len {H M : Nat} {un : Bool} {cs : Nat → List Nat} {e : Lf} {r w : Int32} {E : Nat} (hH : H ≤ 8) (hM : M ≤ 20) (hE : 1 ≤ E) : (zR H M un cs e r w E).2.1.length ≤ E := by
  have h := zR_eq (un := un) (cs := cs) (e := e) (r := r) (w := w) (E := E) hH hM
  generalize zR H M un cs e r w E = res at h ⊢
  unfold skTop at h
  split at h
  · cases h; exact hE
  · exact sk_len _ _ _ _ [] _ hE h
theorem c_nextD (d k : Nat) (x : Int32) {n : Nat} {kd : mK} {I : mI} {J : mJ} {P : mP} (hk : kd d = some (0, 1)) (hx : I d 0 = x) (hk0 : 0 < k) (hk1 : k < 2 ^ 31) : Ct yX1_next cX1_next 2 (some .int) 1 0 0 [.ref d, .int (nI k)] n kd I J P (am_is (some (.int (nI (dv (lcg x) % k)))) n kd (dI d (lcg x) I) J P) := by
  have h := c_X1_next (n := n) (I := I) (J := J) (P := P) d (nI k) hk
  rw [hx, if_pos ((nI_leI (by omega) (by omega)).mpr (by omega)), show x * 1103515245 + nI 12345 = lcg x from rfl, dv_rem _ hk0 hk1] at h
  exact h
theorem CR.dr {o b s f l n t : Nat} {kd : mK} {I I' : mI} {J : mJ} {P : mP} {T : Nat → Nat} {fp : Int32} {rr : Nat → Int32} {H M : Nat} {un : Bool} {cs : Nat → List Nat} {tx : Nat → List Int32} {e : Lf} {im : Option Lf} {wk : Option (List Nat)} (hf : ∀ a, a ≠ o + 66 → I' a = I a) (hC : CR o b s f l n kd I J P t T fp rr H M un cs tx e im wk) : CR o b s f l n kd I' J P t T fp rr H M un cs tx e im wk := by
  have hat := hC.1.at
  exact CR.qu (I := I) (J := J) hC.1 hC.2.1 (hf o (by omega)) (fun a a1 a2 a3 a4 a5 a6 a7 a8 a9 a10 => hf a (by omega)) rfl hC
theorem Bs.dr {o : Nat} {I0 I I' : mI} {J0 J : mJ} {P0 P : mP} (hf : ∀ a, a ≠ o + 66 → I' a = I a) (h : Bs o I0 I J0 J P0 P) : Bs o I0 I' J0 J P0 P := ⟨fun a x1 y1 => ⟨(hf a (by omega)).trans (h.1 a x1 y1).1, (h.1 a x1 y1).2⟩, h.2⟩
set_option maxHeartbeats 4000000 in
set_option maxRecDepth 100000 in
theorem w_years (o b s f l Y : Nat) (s0 val : Int32) {t : Nat} {T : Nat → Nat} {fp : Int32} {rr : Nat → Int32} {H M : Nat} {un : Bool} {cs : Nat → List Nat} {tx : Nat → List Int32} {e : Lf} {im : Option Lf} {wk : Option (List Nat)} {n : Nat} {kd : mK} {I0 : mI} {J0 : mJ} {P0 : mP} (hH0 : 0 < H) (hz : okZ t T H M cs e) : ∀ (c k v : Nat) (sd : Int32) (S : Nat → Nat) (z5 z6 : Option Value) (I : mI) (J : mJ) (P : mP), k + c = Y ∧ Y ≤ 30 → v ≤ k → CR o b s f l n kd I J P t T fp rr H M un cs tx e im wk → Bs o I0 I J0 J P0 P → cL I l H (S, e.2) → okL H M (S, e.2) → I (o + 66) 0 = sd → yrN H M un cs e c sd v S = val → Ru yX9_years.cls cX9_years 7 (some .int) yX9_years.name 9 (pK o n kd I0 J0 P0 (.inl (some (.int val))) (CX o t T fp rr H M un cs tx e im wk)) 1 6 54 [some (.ref o), some (.int s0), some (.int (nI Y)), some (.int (nI v)), some (.int (nI k)), z5, z6] [] n kd I J P
  | 0, k, v, sd, S, z5, z6, I, J, P, hk, hvk, hC, hB, hcl, hok, hsd, hv => by
    rw [show k = Y by omega]
    refine r_iload dX9_years_54 rfl ?_
    refine r_iload_n dX9_years_56 rfl ?_
    refine r_icmp_ge (tgt := 137) dX9_years_57 (by decide) (fun _ => ?_) (fun hz => absurd (show _ from (by rw [nI_leI (by omega) (by omega)]; omega)) hz)
    refine r_iload_n dX9_years_137 rfl ?_
    refine r_iret rfl dX9_years_138 ?_
    rw [← hv]
    exact pK.bs hB hC
  | c + 1, k, v, sd, S, z5, z6, I, J, P, hk, hvk, hC, hB, hcl, hok, hsd, hv => by
    have hz' := hz
    have hC0 := hC
    obtain ⟨okt, oks, okl0⟩ := hz
    have hH8 : H ≤ 8 := oks.2.1
    have hM20 : 2 ≤ M ∧ M ≤ 20 := oks.1
    obtain ⟨hX, hsc, hT, hSt, hLf, hIm, hWk, hQc, hPc⟩ := hC
    have hS := hX.S
    have hL2 := hX.L2
    have hat := hX.at
    obtain ⟨⟨x0, x1, x2⟩, -, -, ⟨hQ, hA, hG, hW, hRd, hD, hPg⟩, ⟨p0, p3, p8, p10, p12, p13, p14, p15, p16, p17⟩, ⟨p4, p5, p6, p7⟩, -, -, -⟩ := id hX
    have hhs : dv (lcg sd) % H < H := Nat.mod_lt _ hH0
    have hss : dv (lcg (lcg sd)) % 10 ≤ 99 := by have := Nat.mod_lt (dv (lcg (lcg sd))) (show 0 < 10 by decide); omega
    have hlen : (yrR H M un cs e sd S).2.1.length ≤ 2 := zR_len hH8 hM20.2 (by decide)
    by_cases hg : (yrR H M un cs e sd S).2.2 = true
    · skip
      refine r_iload dX9_years_54 rfl ?_
      refine r_iload_n dX9_years_56 rfl ?_
      refine r_icmp_ge (tgt := 137) dX9_years_57 (by decide) (fun hz => absurd hz (show ¬ _ from (by rw [nI_leI (by omega) (by omega)]; omega))) (fun _ => ?_)
      refine r_aload_n dX9_years_60 rfl ?_
      refine r_getR dX9_years_61 fl_X9_92 rfl x0 p16 ?_
      refine r_aload_n dX9_years_64 rfl ?_
      refine r_getR dX9_years_65 fl_X9_27 rfl x0 p4 ?_
      refine r_getI dX9_years_68 fl_X9_124 rfl hS.1 ?_
      rw [hSt.1.1]
      refine r_virtE (c_nextD (o + 66) H sd hD hsd hH0 (by omega)) lk_X9_271 mc_X1_next dX9_years_71 hD (by decide) rfl rfl (Nat.le_of_ble_eq_true rfl) ?_
      refine r_istore dX9_years_74 (by decide) ?_
      refine r_aload_n dX9_years_76 rfl ?_
      refine r_getR dX9_years_77 fl_X9_41 rfl x0 p7 ?_
      refine r_iconst (v := nI 0) dX9_years_80 (by decide) ?_
      refine r_iload dX9_years_81 rfl ?_
      refine r_aload_n dX9_years_83 rfl ?_
      refine r_getR dX9_years_84 fl_X9_92 rfl x0 p16 ?_
      refine r_bipush (v := nI 10) dX9_years_87 (by decide) ?_
      refine r_virtE (c_nextD (o + 66) 10 (lcg sd) hD (dI_0 _ _ _) (by decide) (by decide)) lk_X9_271 mc_X1_next dX9_years_89 hD (by decide) rfl rfl (Nat.le_of_ble_eq_true rfl) ?_
      have hf2 : ∀ a, a ≠ o + 66 → dI (o + 66) (lcg (lcg sd)) (dI (o + 66) (lcg sd) I) a = I a := fun a a1 => by rw [dI_ne _ _ a1, dI_ne _ _ a1]
      have hs2 : dI (o + 66) (lcg (lcg sd)) (dI (o + 66) (lcg sd) I) (o + 66) 0 = lcg (lcg sd) := dI_0 _ _ _
      generalize dI (o + 66) (lcg (lcg sd)) (dI (o + 66) (lcg sd) I) = I2 at hf2 hs2 ⊢
      refine r_virtV (c_X2_put l (dv (lcg sd) % H) (nI 0) (nI (dv (lcg (lcg sd)) % 10)) hL2 (by omega)) lk_X9_274 mc_X2_put dX9_years_92 hL2.1 (by decide) rfl rfl (Nat.le_of_ble_eq_true rfl) ?_
      have hcl3 := cL_put (show 0 < 3 by decide) hhs hH8 (fun q => absurd q (by decide)) (hcl.cg (I' := I2) (fun a a1 a2 => hf2 a (by omega))) (v := dv (lcg (lcg sd)) % 10)
      have okl3 : okL H M (yrS H sd S, e.2) := okL_put (k := 0) (h := dv (lcg sd) % H) hss hok
      have hC3 := (hC0.dr hf2).tl (I' := putL I2 l (nI 0) (dv (lcg sd) % H) (nI (dv (lcg (lcg sd)) % 10))) (fun a a1 => putL_fr a1)
      have hB3 := Bs.tl (l := l) (I' := putL I2 l (nI 0) (dv (lcg sd) % H) (nI (dv (lcg (lcg sd)) % 10))) (by omega) (fun a a1 => putL_fr a1) (hB.dr hf2)
      have hs3 : putL I2 l (nI 0) (dv (lcg sd) % H) (nI (dv (lcg (lcg sd)) % 10)) (o + 66) 0 = lcg (lcg sd) := by rw [putL_fr (by omega)]; exact hs2
      generalize putL I2 l (nI 0) (dv (lcg sd) % H) (nI (dv (lcg (lcg sd)) % 10)) = I3 at hcl3 hC3 hB3 hs3 ⊢
      have hcl3 : cL I3 l H (yrS H sd S, e.2) := hcl3
      have hSt3 := hC3.2.2.2.1
      refine r_aload_n dX9_years_95 rfl ?_
      refine r_getR dX9_years_96 fl_X9_64 rfl x0 p12 ?_
      refine r_aload_n dX9_years_99 rfl ?_
      refine r_getR dX9_years_100 fl_X9_27 rfl x0 p4 ?_
      refine r_aload_n dX9_years_103 rfl ?_
      refine r_getR dX9_years_104 fl_X9_41 rfl x0 p7 ?_
      refine r_virt (kc2 := 1) (ks2 := 6) (c_X0_upToTwo (o + 47) (o + 48) b l H M e.2.2.2.2.length (lkO cs H) cs un (LtO e.2.2.2.2) (I3 (l + 1)) (I3 (l + 2)) (yrR H M un cs e sd S) hA.1 hA.2.2.2.2.1 (by omega) hS hL2 hA.2.1 (by omega) (by omega) (by omega) hH8 (z_cl (e := (yrS H sd S, e.2)) hSt3 hcl3 oks okl3) hM20.2 (by rw [sp_c hSt3 hcl3]; exact zR_c (e := (yrS H sd S, e.2)) hH8 hM20.2 hcl3)) lk_X9_277 mc_X0_upToTwo dX9_years_107 hA.1 (by decide) rfl rfl (Nat.le_of_ble_eq_true rfl) (by decide) (by decide) (fun _ _ _ _ _ _ h => nomatch h.1) ?_
      rintro v4 n4 kd4 I4 J4 P4 ⟨h00, rfl, rfl, hqf, hsp4, hf9, hf10, hf5, hJ4⟩
      cases h00
      simp only [Option.toList, List.nil_append, List.cons_append]
      have hC4 := hC3.qf (Or.inl rfl) hqf
      have hB4 := hB3.qf (x := b) (by omega) hqf
      rw [show skv (yrR H M un cs e sd S).2.2 (yrR H M un cs e sd S).2.1 = -2 from by unfold skv; rw [if_pos hg]]
      refine r_istore dX9_years_110 (by decide) ?_
      refine r_iload dX9_years_112 rfl ?_
      refine r_bipush (v := (-2)) dX9_years_114 (by decide) ?_
      refine r_icmp_ne (tgt := 122) dX9_years_116 (by decide) (fun hz => absurd (show _ from rfl) hz) (fun _ => ?_)
      refine r_bipush (v := (-2)) dX9_years_119 (by decide) ?_
      refine r_iret rfl dX9_years_121 ?_
      rw [← hv, show yrN H M un cs e (c + 1) sd v S = -2 from if_pos hg]
      exact pK.bs hB4 hC4
    · by_cases c1 : (yrR H M un cs e sd S).2.1.length = 1
      · skip
        refine r_iload dX9_years_54 rfl ?_
        refine r_iload_n dX9_years_56 rfl ?_
        refine r_icmp_ge (tgt := 137) dX9_years_57 (by decide) (fun hz => absurd hz (show ¬ _ from (by rw [nI_leI (by omega) (by omega)]; omega))) (fun _ => ?_)
        refine r_aload_n dX9_years_60 rfl ?_
        refine r_getR dX9_years_61 fl_X9_92 rfl x0 p16 ?_
        refine r_aload_n dX9_years_64 rfl ?_
        refine r_getR dX9_years_65 fl_X9_27 rfl x0 p4 ?_
        refine r_getI dX9_years_68 fl_X9_124 rfl hS.1 ?_
        rw [hSt.1.1]
        refine r_virtE (c_nextD (o + 66) H sd hD hsd hH0 (by omega)) lk_X9_271 mc_X1_next dX9_years_71 hD (by decide) rfl rfl (Nat.le_of_ble_eq_true rfl) ?_
        refine r_istore dX9_years_74 (by decide) ?_
        refine r_aload_n dX9_years_76 rfl ?_
        refine r_getR dX9_years_77 fl_X9_41 rfl x0 p7 ?_
        refine r_iconst (v := nI 0) dX9_years_80 (by decide) ?_
        refine r_iload dX9_years_81 rfl ?_
        refine r_aload_n dX9_years_83 rfl ?_
        refine r_getR dX9_years_84 fl_X9_92 rfl x0 p16 ?_
        refine r_bipush (v := nI 10) dX9_years_87 (by decide) ?_
        refine r_virtE (c_nextD (o + 66) 10 (lcg sd) hD (dI_0 _ _ _) (by decide) (by decide)) lk_X9_271 mc_X1_next dX9_years_89 hD (by decide) rfl rfl (Nat.le_of_ble_eq_true rfl) ?_
        have hf2 : ∀ a, a ≠ o + 66 → dI (o + 66) (lcg (lcg sd)) (dI (o + 66) (lcg sd) I) a = I a := fun a a1 => by rw [dI_ne _ _ a1, dI_ne _ _ a1]
        have hs2 : dI (o + 66) (lcg (lcg sd)) (dI (o + 66) (lcg sd) I) (o + 66) 0 = lcg (lcg sd) := dI_0 _ _ _
        generalize dI (o + 66) (lcg (lcg sd)) (dI (o + 66) (lcg sd) I) = I2 at hf2 hs2 ⊢
        refine r_virtV (c_X2_put l (dv (lcg sd) % H) (nI 0) (nI (dv (lcg (lcg sd)) % 10)) hL2 (by omega)) lk_X9_274 mc_X2_put dX9_years_92 hL2.1 (by decide) rfl rfl (Nat.le_of_ble_eq_true rfl) ?_
        have hcl3 := cL_put (show 0 < 3 by decide) hhs hH8 (fun q => absurd q (by decide)) (hcl.cg (I' := I2) (fun a a1 a2 => hf2 a (by omega))) (v := dv (lcg (lcg sd)) % 10)
        have okl3 : okL H M (yrS H sd S, e.2) := okL_put (k := 0) (h := dv (lcg sd) % H) hss hok
        have hC3 := (hC0.dr hf2).tl (I' := putL I2 l (nI 0) (dv (lcg sd) % H) (nI (dv (lcg (lcg sd)) % 10))) (fun a a1 => putL_fr a1)
        have hB3 := Bs.tl (l := l) (I' := putL I2 l (nI 0) (dv (lcg sd) % H) (nI (dv (lcg (lcg sd)) % 10))) (by omega) (fun a a1 => putL_fr a1) (hB.dr hf2)
        have hs3 : putL I2 l (nI 0) (dv (lcg sd) % H) (nI (dv (lcg (lcg sd)) % 10)) (o + 66) 0 = lcg (lcg sd) := by rw [putL_fr (by omega)]; exact hs2
        generalize putL I2 l (nI 0) (dv (lcg sd) % H) (nI (dv (lcg (lcg sd)) % 10)) = I3 at hcl3 hC3 hB3 hs3 ⊢
        have hcl3 : cL I3 l H (yrS H sd S, e.2) := hcl3
        have hSt3 := hC3.2.2.2.1
        refine r_aload_n dX9_years_95 rfl ?_
        refine r_getR dX9_years_96 fl_X9_64 rfl x0 p12 ?_
        refine r_aload_n dX9_years_99 rfl ?_
        refine r_getR dX9_years_100 fl_X9_27 rfl x0 p4 ?_
        refine r_aload_n dX9_years_103 rfl ?_
        refine r_getR dX9_years_104 fl_X9_41 rfl x0 p7 ?_
        refine r_virt (kc2 := 1) (ks2 := 6) (c_X0_upToTwo (o + 47) (o + 48) b l H M e.2.2.2.2.length (lkO cs H) cs un (LtO e.2.2.2.2) (I3 (l + 1)) (I3 (l + 2)) (yrR H M un cs e sd S) hA.1 hA.2.2.2.2.1 (by omega) hS hL2 hA.2.1 (by omega) (by omega) (by omega) hH8 (z_cl (e := (yrS H sd S, e.2)) hSt3 hcl3 oks okl3) hM20.2 (by rw [sp_c hSt3 hcl3]; exact zR_c (e := (yrS H sd S, e.2)) hH8 hM20.2 hcl3)) lk_X9_277 mc_X0_upToTwo dX9_years_107 hA.1 (by decide) rfl rfl (Nat.le_of_ble_eq_true rfl) (by decide) (by decide) (fun _ _ _ _ _ _ h => nomatch h.1) ?_
        rintro v4 n4 kd4 I4 J4 P4 ⟨h00, rfl, rfl, hqf, hsp4, hf9, hf10, hf5, hJ4⟩
        cases h00
        simp only [Option.toList, List.nil_append, List.cons_append]
        have hC4 := hC3.qf (Or.inl rfl) hqf
        have hB4 := hB3.qf (x := b) (by omega) hqf
        rw [show skv (yrR H M un cs e sd S).2.2 (yrR H M un cs e sd S).2.1 = nI (yrR H M un cs e sd S).2.1.length from by unfold skv; rw [if_neg hg]]
        refine r_istore dX9_years_110 (by decide) ?_
        refine r_iload dX9_years_112 rfl ?_
        refine r_bipush (v := (-2)) dX9_years_114 (by decide) ?_
        refine r_icmp_ne (tgt := 122) dX9_years_116 (by decide) (fun _ => ?_) (fun hz => absurd hz (show ¬ _ from (nI_m2 (by omega))))
        refine r_iload dX9_years_122 rfl ?_
        refine r_iconst (v := nI 1) dX9_years_124 (by decide) ?_
        refine r_icmp_ne (tgt := 131) dX9_years_125 (by decide) (fun hz => absurd (show _ from (by rw [c1])) hz) (fun _ => ?_)
        refine r_iinc (v := nI (v + 1)) dX9_years_128 rfl (nI_inc v) ?_
        refine r_iinc (v := nI (k + 1)) dX9_years_131 rfl (nI_inc k) ?_
        refine r_goto (tgt := 54) dX9_years_134 (by decide) ?_
        exact w_years o b s f l Y s0 val hH0 hz' c (k + 1) (v + 1) (lcg (lcg sd)) (yrS H sd S) _ _ I4 J4 P4 (by omega) (by omega) hC4 hB4 (hcl3.cg (fun a a1 a2 => hqf.1 a (by omega) (by omega))) okl3 (by rw [hqf.1 _ (by omega) (by omega)]; exact hs3) (by rw [← hv]; show _ = (if (yrR H M un cs e sd S).2.2 = true then -2 else _); rw [if_neg hg, if_pos c1])
      · skip
        refine r_iload dX9_years_54 rfl ?_
        refine r_iload_n dX9_years_56 rfl ?_
        refine r_icmp_ge (tgt := 137) dX9_years_57 (by decide) (fun hz => absurd hz (show ¬ _ from (by rw [nI_leI (by omega) (by omega)]; omega))) (fun _ => ?_)
        refine r_aload_n dX9_years_60 rfl ?_
        refine r_getR dX9_years_61 fl_X9_92 rfl x0 p16 ?_
        refine r_aload_n dX9_years_64 rfl ?_
        refine r_getR dX9_years_65 fl_X9_27 rfl x0 p4 ?_
        refine r_getI dX9_years_68 fl_X9_124 rfl hS.1 ?_
        rw [hSt.1.1]
        refine r_virtE (c_nextD (o + 66) H sd hD hsd hH0 (by omega)) lk_X9_271 mc_X1_next dX9_years_71 hD (by decide) rfl rfl (Nat.le_of_ble_eq_true rfl) ?_
        refine r_istore dX9_years_74 (by decide) ?_
        refine r_aload_n dX9_years_76 rfl ?_
        refine r_getR dX9_years_77 fl_X9_41 rfl x0 p7 ?_
        refine r_iconst (v := nI 0) dX9_years_80 (by decide) ?_
        refine r_iload dX9_years_81 rfl ?_
        refine r_aload_n dX9_years_83 rfl ?_
        refine r_getR dX9_years_84 fl_X9_92 rfl x0 p16 ?_
        refine r_bipush (v := nI 10) dX9_years_87 (by decide) ?_
        refine r_virtE (c_nextD (o + 66) 10 (lcg sd) hD (dI_0 _ _ _) (by decide) (by decide)) lk_X9_271 mc_X1_next dX9_years_89 hD (by decide) rfl rfl (Nat.le_of_ble_eq_true rfl) ?_
        have hf2 : ∀ a, a ≠ o + 66 → dI (o + 66) (lcg (lcg sd)) (dI (o + 66) (lcg sd) I) a = I a := fun a a1 => by rw [dI_ne _ _ a1, dI_ne _ _ a1]
        have hs2 : dI (o + 66) (lcg (lcg sd)) (dI (o + 66) (lcg sd) I) (o + 66) 0 = lcg (lcg sd) := dI_0 _ _ _
        generalize dI (o + 66) (lcg (lcg sd)) (dI (o + 66) (lcg sd) I) = I2 at hf2 hs2 ⊢
        refine r_virtV (c_X2_put l (dv (lcg sd) % H) (nI 0) (nI (dv (lcg (lcg sd)) % 10)) hL2 (by omega)) lk_X9_274 mc_X2_put dX9_years_92 hL2.1 (by decide) rfl rfl (Nat.le_of_ble_eq_true rfl) ?_
        have hcl3 := cL_put (show 0 < 3 by decide) hhs hH8 (fun q => absurd q (by decide)) (hcl.cg (I' := I2) (fun a a1 a2 => hf2 a (by omega))) (v := dv (lcg (lcg sd)) % 10)
        have okl3 : okL H M (yrS H sd S, e.2) := okL_put (k := 0) (h := dv (lcg sd) % H) hss hok
        have hC3 := (hC0.dr hf2).tl (I' := putL I2 l (nI 0) (dv (lcg sd) % H) (nI (dv (lcg (lcg sd)) % 10))) (fun a a1 => putL_fr a1)
        have hB3 := Bs.tl (l := l) (I' := putL I2 l (nI 0) (dv (lcg sd) % H) (nI (dv (lcg (lcg sd)) % 10))) (by omega) (fun a a1 => putL_fr a1) (hB.dr hf2)
        have hs3 : putL I2 l (nI 0) (dv (lcg sd) % H) (nI (dv (lcg (lcg sd)) % 10)) (o + 66) 0 = lcg (lcg sd) := by rw [putL_fr (by omega)]; exact hs2
        generalize putL I2 l (nI 0) (dv (lcg sd) % H) (nI (dv (lcg (lcg sd)) % 10)) = I3 at hcl3 hC3 hB3 hs3 ⊢
        have hcl3 : cL I3 l H (yrS H sd S, e.2) := hcl3
        have hSt3 := hC3.2.2.2.1
        refine r_aload_n dX9_years_95 rfl ?_
        refine r_getR dX9_years_96 fl_X9_64 rfl x0 p12 ?_
        refine r_aload_n dX9_years_99 rfl ?_
        refine r_getR dX9_years_100 fl_X9_27 rfl x0 p4 ?_
        refine r_aload_n dX9_years_103 rfl ?_
        refine r_getR dX9_years_104 fl_X9_41 rfl x0 p7 ?_
        refine r_virt (kc2 := 1) (ks2 := 6) (c_X0_upToTwo (o + 47) (o + 48) b l H M e.2.2.2.2.length (lkO cs H) cs un (LtO e.2.2.2.2) (I3 (l + 1)) (I3 (l + 2)) (yrR H M un cs e sd S) hA.1 hA.2.2.2.2.1 (by omega) hS hL2 hA.2.1 (by omega) (by omega) (by omega) hH8 (z_cl (e := (yrS H sd S, e.2)) hSt3 hcl3 oks okl3) hM20.2 (by rw [sp_c hSt3 hcl3]; exact zR_c (e := (yrS H sd S, e.2)) hH8 hM20.2 hcl3)) lk_X9_277 mc_X0_upToTwo dX9_years_107 hA.1 (by decide) rfl rfl (Nat.le_of_ble_eq_true rfl) (by decide) (by decide) (fun _ _ _ _ _ _ h => nomatch h.1) ?_
        rintro v4 n4 kd4 I4 J4 P4 ⟨h00, rfl, rfl, hqf, hsp4, hf9, hf10, hf5, hJ4⟩
        cases h00
        simp only [Option.toList, List.nil_append, List.cons_append]
        have hC4 := hC3.qf (Or.inl rfl) hqf
        have hB4 := hB3.qf (x := b) (by omega) hqf
        rw [show skv (yrR H M un cs e sd S).2.2 (yrR H M un cs e sd S).2.1 = nI (yrR H M un cs e sd S).2.1.length from by unfold skv; rw [if_neg hg]]
        refine r_istore dX9_years_110 (by decide) ?_
        refine r_iload dX9_years_112 rfl ?_
        refine r_bipush (v := (-2)) dX9_years_114 (by decide) ?_
        refine r_icmp_ne (tgt := 122) dX9_years_116 (by decide) (fun _ => ?_) (fun hz => absurd hz (show ¬ _ from (nI_m2 (by omega))))
        refine r_iload dX9_years_122 rfl ?_
        refine r_iconst (v := nI 1) dX9_years_124 (by decide) ?_
        refine r_icmp_ne (tgt := 131) dX9_years_125 (by decide) (fun _ => ?_) (fun hz => absurd hz (show ¬ _ from (by rw [nI_eq (by omega) (by decide)]; exact c1)))
        refine r_iinc (v := nI (k + 1)) dX9_years_131 rfl (nI_inc k) ?_
        refine r_goto (tgt := 54) dX9_years_134 (by decide) ?_
        exact w_years o b s f l Y s0 val hH0 hz' c (k + 1) (v + 0) (lcg (lcg sd)) (yrS H sd S) _ _ I4 J4 P4 (by omega) (by omega) hC4 hB4 (hcl3.cg (fun a a1 a2 => hqf.1 a (by omega) (by omega))) okl3 (by rw [hqf.1 _ (by omega) (by omega)]; exact hs3) (by rw [← hv]; show _ = (if (yrR H M un cs e sd S).2.2 = true then -2 else _); rw [if_neg hg, if_neg c1])

set_option maxHeartbeats 4000000 in
set_option maxRecDepth 100000 in
theorem k_years (o b s f l : Nat) (Y : Nat) (s0 : Int32) {t : Nat} {T : Nat → Nat} {fp : Int32} {rr : Nat → Int32} {H M : Nat} {un : Bool} {cs : Nat → List Nat} {tx : Nat → List Int32} {e : Lf} {im : Option Lf} {wk : Option (List Nat)} {n : Nat} {kd : mK} {I : mI} {J : mJ} {P : mP} (hC : CR o b s f l n kd I J P t T fp rr H M un cs tx e im wk) (hz : okZ t T H M cs e) (hH0 : 0 < H) (hY : Y ≤ 30) : Ct yX9_years cX9_years 7 (some .int) 9 1 6 [.ref o, .int s0, .int (nI Y)] n kd I J P (pK o n kd I J P (.inl (some (.int (yrN H M un cs e Y s0 0 e.1)))) (CX o t T fp rr H M un cs tx e im wk)) := by
  have hC0 := hC
  have hz0 := hz
  obtain ⟨hX, hsc, hT, hSt, hLf, hIm, hWk, hQc, hPc⟩ := hC
  obtain ⟨okt, oks, okl⟩ := hz
  have hS := hX.S
  have hL := hX.L
  have hat := hX.at
  have hH8 : H ≤ 8 := oks.2.1
  have hM20 : 2 ≤ M ∧ M ≤ 20 := oks.1
  have hH : I b 0 = nI H := hSt.1.1
  have hMo : I b 1 = nI M := hSt.2.1
  obtain ⟨⟨x0, x1, x2⟩, -, ⟨-, -, hLk⟩, ⟨hQ, hA, hG, hW, hRd, hD, hPg⟩, ⟨p0, p3, p8, p10, p12, p13, p14, p15, p16, p17⟩, ⟨p4, p5, p6, p7⟩, -, -, -⟩ := id hX
  refine ct_of 4 (by decide +kernel) (Nat.le_of_ble_eq_true rfl) rfl ?_
  refine r_iload_n dX9_years_0 rfl ?_
  refine r_if_lt (tgt := 10) dX9_years_1 (by decide) (fun hz => absurd hz (show ¬ _ from (z_nlt (by omega)))) (fun _ => ?_)
  refine r_iload_n dX9_years_4 rfl ?_
  refine r_bipush (v := nI 30) dX9_years_5 (by decide) ?_
  refine r_icmp_le (tgt := 18) dX9_years_7 (by decide) (fun _ => ?_) (fun hz => absurd (show _ from ((nI_leI (by omega) (by decide)).mpr hY)) hz)
  refine r_aload_n dX9_years_18 rfl ?_
  refine r_getR dX9_years_19 fl_X9_27 rfl (by assumption) (by assumption) ?_
  refine r_getI dX9_years_22 fl_X9_124 rfl hS.1 ?_
  rw [hH]
  refine r_if_ne (tgt := 30) dX9_years_25 (by decide) (fun _ => ?_) (fun hz => absurd hz (show ¬ _ from (nI_ne0 (by omega) (by omega))))
  refine r_aload_n dX9_years_30 rfl ?_
  refine r_getR dX9_years_31 fl_X9_41 rfl (by assumption) (by assumption) ?_
  refine r_aload_n dX9_years_34 rfl ?_
  refine r_getR dX9_years_35 fl_X9_37 rfl (by assumption) (by assumption) ?_
  refine r_virt (kc2 := 1) (ks2 := 6) (c_X2_copy l f hX.L2 hL (by omega)) lk_X9_264 mc_X2_copy dX9_years_38 hX.L2.1 (by decide) rfl rfl (Nat.le_of_ble_eq_true rfl) (by decide) (by decide) (fun _ _ _ _ _ _ h => nomatch h.1) ?_
  rintro v2 n2 kd2 I2 J2 P2 ⟨h00, rfl, rfl, rfl, rfl, hfr2, g0, g1, g3, g4⟩
  cases h00
  simp only [Option.toList, List.nil_append]
  have hC2 := hC0.tl hfr2
  have hcl2 := cL_copy hH8 okl g0 g1 g3 g4 hLf
  refine r_aload_n dX9_years_41 rfl ?_
  refine r_getR dX9_years_42 fl_X9_92 rfl (by assumption) (by assumption) ?_
  refine r_iload_n dX9_years_45 rfl ?_
  refine r_virtV (c_X1_start (o + 66) s0 hD) lk_X9_268 mc_X1_start dX9_years_46 hD (by decide) rfl rfl (Nat.le_of_ble_eq_true rfl) ?_
  refine r_iconst (v := nI 0) dX9_years_49 (by decide) ?_
  refine r_istore_n dX9_years_50 (by decide) ?_
  refine r_iconst (v := nI 0) dX9_years_51 (by decide) ?_
  refine r_istore dX9_years_52 (by decide) ?_
  have hf3 : ∀ a, a ≠ o + 66 → va_up I2 (o + 66) (va_up (I2 (o + 66)) 0 s0) a = I2 a := fun a a1 => am_up_n _ _ a1
  exact w_years o b s f l Y s0 _ hH0 hz0 Y 0 0 s0 e.1 _ _ _ _ _ ⟨by omega, hY⟩ (Nat.le_refl _) (hC2.dr hf3) ((Bs.tl (l := l) (by omega) hfr2 Bs.rf).dr hf3) (hcl2.cg (fun a a1 a2 => hf3 a (by omega))) okl (by rw [am_up_s, am_up_s]) rfl

set_option maxHeartbeats 4000000 in
set_option maxRecDepth 100000 in
theorem k_years_no (o b s f l : Nat) (x y : Int32) {t : Nat} {T : Nat → Nat} {fp : Int32} {rr : Nat → Int32} {H M : Nat} {un : Bool} {cs : Nat → List Nat} {tx : Nat → List Int32} {e : Lf} {im : Option Lf} {wk : Option (List Nat)} {n : Nat} {kd : mK} {I : mI} {J : mJ} {P : mP} (hC : CR o b s f l n kd I J P t T fp rr H M un cs tx e im wk) (hz : okZ t T H M cs e) (hx : x < 0 ∨ nI 30 < x) : Ct yX9_years cX9_years 7 (some .int) 9 1 6 [.ref o, .int y, .int x] n kd I J P (fun z n' kd' I' J' P' => z = .inr "java/lang/IllegalArgumentException" ∧ n' = n ∧ kd' = kd ∧ I' = I ∧ J' = J ∧ P' = P) := by
  exact c_years_no o y x hx

set_option maxHeartbeats 4000000 in
set_option maxRecDepth 100000 in
theorem k_years_0 (o b s f l : Nat) (x y : Int32) {t : Nat} {T : Nat → Nat} {fp : Int32} {rr : Nat → Int32} {H M : Nat} {un : Bool} {cs : Nat → List Nat} {tx : Nat → List Int32} {e : Lf} {im : Option Lf} {wk : Option (List Nat)} {n : Nat} {kd : mK} {I : mI} {J : mJ} {P : mP} (hC : CR o b s f l n kd I J P t T fp rr H M un cs tx e im wk) (hz : okZ t T H M cs e) (hH0 : H = 0) (h0 : ¬ x < 0) (h30 : ¬ nI 30 < x) : Ct yX9_years cX9_years 7 (some .int) 9 1 6 [.ref o, .int y, .int x] n kd I J P (pK o n kd I J P (.inl (some (.int (x)))) (CX o t T fp rr H M un cs tx e im wk)) := by
  have hC0 := hC
  have hz0 := hz
  obtain ⟨hX, hsc, hT, hSt, hLf, hIm, hWk, hQc, hPc⟩ := hC
  obtain ⟨okt, oks, okl⟩ := hz
  have hS := hX.S
  have hL := hX.L
  have hat := hX.at
  have hH8 : H ≤ 8 := oks.2.1
  have hM20 : 2 ≤ M ∧ M ≤ 20 := oks.1
  have hH : I b 0 = nI H := hSt.1.1
  have hMo : I b 1 = nI M := hSt.2.1
  obtain ⟨⟨x0, x1, x2⟩, -, ⟨-, -, hLk⟩, ⟨hQ, hA, hG, hW, hRd, hD, hPg⟩, ⟨p0, p3, p8, p10, p12, p13, p14, p15, p16, p17⟩, ⟨p4, p5, p6, p7⟩, -, -, -⟩ := id hX
  exact (c_years_0 (n := n) (I := I) (J := J) o b y x x0 hS.1 p4 (by rw [hH, hH0]) h0 h30).mono (fun _ _ _ _ _ _ hx => pK.is hC0 hx)

set_option maxHeartbeats 4000000 in
set_option maxRecDepth 100000 in
theorem q_years_no (m : Nat) (x y : Int32) {t : Nat} {T : Nat → Nat} {fp : Int32} {rr : Nat → Int32} {H M : Nat} {un : Bool} {cs : Nat → List Nat} {tx : Nat → List Int32} {e : Lf} {im : Option Lf} {wk : Option (List Nat)} {n : Nat} {kd : mK} {I : mI} {J : mJ} {P : mP} (hC : RR m kd I P t T fp rr H M un cs tx e im wk) (hz : okZ t T H M cs e) (hx : x < 0 ∨ nI 30 < x) : Ct yX10_years cX10_years 8 (some .int) 3 0 0 [.ref m, .int y, .int x] n kd I J P (pQ m n kd I J P (some (.int (nI 0))) 1 (RX m t T fp rr H M un cs tx e im wk)) := by
  have hC0 := hC
  obtain ⟨hM, hT, hSt, hLf, hIm, hWk⟩ := hC
  obtain ⟨okt, oks, okl⟩ := hz
  have hH8 : H ≤ 8 := oks.2.1
  have hM20 : 2 ≤ M ∧ M ≤ 20 := oks.1
  have hH : I m 1 = nI H := hSt.1.1
  have hMo : I m 2 = nI M := hSt.1.2.1
  exact (c_yearsR_no (n := n) (I := I) (J := J) m y x hM (wi_no hx)).mono (fun _ _ _ _ _ _ hx => pQ.th hC0 hx)

set_option maxHeartbeats 4000000 in
set_option maxRecDepth 100000 in
theorem q_years_0 (m : Nat) (x y : Int32) {t : Nat} {T : Nat → Nat} {fp : Int32} {rr : Nat → Int32} {H M : Nat} {un : Bool} {cs : Nat → List Nat} {tx : Nat → List Int32} {e : Lf} {im : Option Lf} {wk : Option (List Nat)} {n : Nat} {kd : mK} {I : mI} {J : mJ} {P : mP} (hC : RR m kd I P t T fp rr H M un cs tx e im wk) (hz : okZ t T H M cs e) (hH0 : H = 0) (h0 : ¬ x < 0) (h30 : ¬ nI 30 < x) : Ct yX10_years cX10_years 8 (some .int) 3 0 0 [.ref m, .int y, .int x] n kd I J P (pQ m n kd I J P (some (.int (x))) 0 (RX m t T fp rr H M un cs tx e im wk)) := by
  have hC0 := hC
  obtain ⟨hM, hT, hSt, hLf, hIm, hWk⟩ := hC
  obtain ⟨okt, oks, okl⟩ := hz
  have hH8 : H ≤ 8 := oks.2.1
  have hM20 : 2 ≤ M ∧ M ≤ 20 := oks.1
  have hH : I m 1 = nI H := hSt.1.1
  have hMo : I m 2 = nI M := hSt.1.2.1
  exact (c_yearsR_0 (n := n) (I := I) (J := J) m y x hM (by rw [hH, hH0]) (by rw [show (nI 0) = (0 : Int32) from rfl, decide_eq_false h0, decide_eq_false h30]; rfl)).mono (fun _ _ _ _ _ _ hx => pQ.th hC0 hx)


def yrA (H M : Nat) (un : Bool) (cs : Nat → List Nat) (e : Lf) : Nat → Int32 → (Nat → Nat) → Bool
  | 0, _, _ => true
  | c + 1, sd, S => !(yrR H M un cs e sd S).2.2 && yrA H M un cs e c (lcg (lcg sd)) (yrS H sd S)
theorem yrN_f {H M : Nat} {un : Bool} {cs : Nat → List Nat} {e : Lf} : ∀ {c : Nat} {sd : Int32} {v : Nat} {S : Nat → Nat}, yrA H M un cs e c sd S = false → yrN H M un cs e c sd v S = -2
  | 0, _, _, _, h => nomatch h
  | c + 1, sd, v, S, h => by
    have h' : (!(yrR H M un cs e sd S).2.2 && yrA H M un cs e c (lcg (lcg sd)) (yrS H sd S)) = false := h
    show (if (yrR H M un cs e sd S).2.2 = true then -2 else _) = _
    by_cases q : (yrR H M un cs e sd S).2.2 = true
    · rw [if_pos q]
    · rw [if_neg q]
      have q2 : (yrR H M un cs e sd S).2.2 = false := by simpa using q
      rw [q2] at h'
      exact yrN_f (by simpa using h')
theorem gdR_2 {r : Nat × List (Nat → Nat) × Bool} (h : r.2.1.length ≤ 2) : gdR r = !r.2.2 := by unfold gdR; rw [decide_eq_true (by omega), Bool.and_true]
set_option maxHeartbeats 4000000 in
set_option maxRecDepth 100000 in
theorem w_yearsR (m Y : Nat) (s0 val : Int32) (al : Bool) {t : Nat} {T : Nat → Nat} {fp : Int32} {rr : Nat → Int32} {H M : Nat} {un : Bool} {cs : Nat → List Nat} {tx : Nat → List Int32} {e : Lf} {im : Option Lf} {wk : Option (List Nat)} {n : Nat} {kd : mK} {J : mJ} {P : mP} {I0 : mI} {post : am_Post} (hH0 : 0 < H) (hH8 : H ≤ 8) (hM20 : 2 ≤ M ∧ M ≤ 20) (hEt : (al = true → ∀ (sd' : Int32) (S' : Nat → Nat) (k' : Nat) (z7 : Option Value) (I' : mI), RR m kd I' P t T fp rr H M un cs tx (S', e.2) im wk → I' m 0 = 0 → (∀ a, (a < m ∨ m + 55 < a) → I' a = I0 a) → (∀ j, j < 8 → I' (m + 33) j = I0 (m + 1) j) → Ru yX10_years.cls cX10_years 8 (some .int) yX10_years.name 10 (post) 0 0 159 [some (.ref m), some (.int s0), some (.int (nI Y)), some (.int sd'), some (.int val), some (.int (nI 1)), some (.int (nI k')), z7] [] n kd I' J P)) (hEf : (al = false → ∀ (sd' : Int32) (S' : Nat → Nat) (k' v' : Nat) (z7 : Option Value) (I' : mI), RR m kd I' P t T fp rr H M un cs tx (S', e.2) im wk → I' m 0 = 0 → (∀ a, (a < m ∨ m + 55 < a) → I' a = I0 a) → (∀ j, j < 8 → I' (m + 33) j = I0 (m + 1) j) → Ru yX10_years.cls cX10_years 8 (some .int) yX10_years.name 10 (post) 0 0 159 [some (.ref m), some (.int s0), some (.int (nI Y)), some (.int sd'), some (.int (nI v')), some (.int (nI 0)), some (.int (nI k')), z7] [] n kd I' J P)) : ∀ (c k v : Nat) (sd : Int32) (S : Nat → Nat) (z7 : Option Value) (I : mI), k + c = Y ∧ Y ≤ 30 → v ≤ k → RR m kd I P t T fp rr H M un cs tx (S, e.2) im wk → okZ t T H M cs (S, e.2) → I m 0 = 0 → (∀ a, (a < m ∨ m + 55 < a) → I a = I0 a) → (∀ j, j < 8 → I (m + 33) j = I0 (m + 1) j) → yrA H M un cs e c sd S = al → (al = true → yrN H M un cs e c sd v S = val) → Ru yX10_years.cls cX10_years 8 (some .int) yX10_years.name 10 (post) 0 0 54 [some (.ref m), some (.int s0), some (.int (nI Y)), some (.int sd), some (.int (nI v)), some (.int (nI 1)), some (.int (nI k)), z7] [] n kd I J P
  | 0, k, v, sd, S, z7, I, hk, hvk, hC, hz, h0, hB, h33, hal, hv => by
    refine r_iload dX10_years_54 rfl ?_
    refine r_iload_n dX10_years_56 rfl ?_
    refine r_icmp_ge (tgt := 159) dX10_years_57 (by decide) (fun _ => ?_) (fun hz => absurd (show _ from (by rw [nI_leI (by omega) (by omega)]; omega)) hz)
    have hx := hEt (by rw [← hal]; rfl) sd S k z7 I hC h0 hB h33
    rw [← hv (by rw [← hal]; rfl)] at hx
    exact hx
  | c + 1, k, v, sd, S, z7, I, hk, hvk, hC, hz, h0, hB, h33, hal, hv => by
    have hC0 := hC
    obtain ⟨hM, hT, hSt, hLf, hIm, hWk⟩ := hC
    have hH : I m 1 = nI H := hSt.1.1
    have hok : okL H M (S, e.2) := hz.2.2
    have hhs : dv (lcg sd) % H < H := Nat.mod_lt _ hH0
    have hss : dv (lcg (lcg sd)) % 10 ≤ 99 := by have := Nat.mod_lt (dv (lcg (lcg sd))) (show 0 < 10 by decide); omega
    have hlen : (yrR H M un cs e sd S).2.1.length ≤ 2 := zR_len hH8 hM20.2 (by decide)
    by_cases hs2 : (yrR H M un cs e sd S).2.2 = true
    · have hg : gdR (yrR H M un cs e sd S) = false := by rw [gdR_2 hlen, hs2]; rfl
      refine r_iload dX10_years_54 rfl ?_
      refine r_iload_n dX10_years_56 rfl ?_
      refine r_icmp_ge (tgt := 159) dX10_years_57 (by decide) (fun hz => absurd hz (show ¬ _ from (by rw [nI_leI (by omega) (by omega)]; omega))) (fun _ => ?_)
      refine r_iload dX10_years_60 rfl ?_
      refine r_if_eq (tgt := 159) dX10_years_62 (by decide) (fun hz => absurd hz (show ¬ _ from (by decide))) (fun _ => ?_)
      refine r_iload_n dX10_years_65 rfl ?_
      refine r_ldcw dX10_years_66 ic_X10_474 ?_
      refine r_imul dX10_years_69 ?_
      refine r_sipush (v := nI 12345) dX10_years_70 (by decide) ?_
      refine r_iadd dX10_years_73 ?_
      rw [show sd * 1103515245 + nI 12345 = lcg sd from rfl]
      refine r_istore_n dX10_years_74 (by decide) ?_
      refine r_iload_n dX10_years_75 rfl ?_
      refine r_bipush (v := nI 16) dX10_years_76 (by decide) ?_
      refine r_ishr dX10_years_78 ?_
      refine r_sipush (v := nI 32767) dX10_years_79 (by decide) ?_
      refine r_iand dX10_years_82 ?_
      refine r_aload_n dX10_years_83 rfl ?_
      refine r_getI dX10_years_84 fl_X10_350 rfl hM.1 ?_
      rw [hH]
      refine r_irem dX10_years_87 (nI_ne0 hH0 (by omega)) ?_
      rw [dv_rem _ hH0 (by omega)]
      refine r_istore dX10_years_88 (by decide) ?_
      refine r_iload_n dX10_years_90 rfl ?_
      refine r_ldcw dX10_years_91 ic_X10_474 ?_
      refine r_imul dX10_years_94 ?_
      refine r_sipush (v := nI 12345) dX10_years_95 (by decide) ?_
      refine r_iadd dX10_years_98 ?_
      rw [show lcg sd * 1103515245 + nI 12345 = lcg (lcg sd) from rfl]
      refine r_istore_n dX10_years_99 (by decide) ?_
      refine r_aload_n dX10_years_100 rfl ?_
      refine r_getR dX10_years_101 fl_X10_13 rfl (kM_0 hM) (pM_4 hM) ?_
      refine r_iload dX10_years_104 rfl ?_
      refine r_iload_n dX10_years_106 rfl ?_
      refine r_bipush (v := nI 16) dX10_years_107 (by decide) ?_
      refine r_ishr dX10_years_109 ?_
      refine r_sipush (v := nI 32767) dX10_years_110 (by decide) ?_
      refine r_iand dX10_years_113 ?_
      refine r_bipush (v := nI 10) dX10_years_114 (by decide) ?_
      refine r_irem dX10_years_116 (by decide) ?_
      rw [dv_rem _ (by decide) (by decide)]
      refine r_iast dX10_years_117 (aM_4 hM) (nI_in8 8 (by omega) (by decide)) (nI_clamp (by omega)) ?_
      have hr2 := rL_turn (k := 0) (h := dv (lcg sd) % H) (v := dv (lcg (lcg sd)) % 10) (fun a1 a2 => absurd rfl a1) hC0.2.2.2.1
      have hr2 : rL (va_up I (m + 1) (va_up (I (m + 1)) (dv (lcg sd) % H) (nI (dv (lcg (lcg sd)) % 10)))) m H (yrS H sd S, e.2) := hr2
      have hC2 : RR m kd (va_up I (m + 1) (va_up (I (m + 1)) (dv (lcg sd) % H) (nI (dv (lcg (lcg sd)) % 10)))) P t T fp rr H M un cs tx (yrS H sd S, e.2) im wk := RR.up (I := I) (fun a a1 a2 a3 a4 a5 a6 a7 => am_up_n _ _ a3) (fun j hj => by rw [am_up_n _ _ (by omega)]) hr2 hC0
      have hf2 : ∀ a, a ≠ m + 1 → va_up I (m + 1) (va_up (I (m + 1)) (dv (lcg sd) % H) (nI (dv (lcg (lcg sd)) % 10))) a = I a := fun a a1 => am_up_n _ _ a1
      generalize va_up I (m + 1) (va_up (I (m + 1)) (dv (lcg sd) % H) (nI (dv (lcg (lcg sd)) % 10))) = I2 at hC2 hf2 ⊢
      have okl3 : okL H M (yrS H sd S, e.2) := okL_put (k := 0) (h := dv (lcg sd) % H) hss hok
      have hz3 : okZ t T H M cs (yrS H sd S, e.2) := ⟨hz.1, hz.2.1, okl3⟩
      have hSt2 := hC2.2.2.1
      have hLf2 := hC2.2.2.2.1
      refine r_aload_n dX10_years_118 rfl ?_
      refine r_aload_n dX10_years_119 rfl ?_
      refine r_virtE (c_X10_speaking m H hM hSt2.1.1 hH8) lk_X10_429 mc_X10_speaking dX10_years_120 hM.1 (by decide) rfl rfl (Nat.le_of_ble_eq_true rfl) ?_
      rw [sp_r hH8 hSt2 hLf2, show spB H cs (yrS H sd S, e.2) = spB H cs e from rfl]
      refine r_iconst (v := nI 1) dX10_years_123 (by decide) ?_
      refine r_iconst (v := nI 2) dX10_years_124 (by decide) ?_
      refine r_virt (kc2 := 0) (ks2 := 0) (q_seeksR m (nI (spB H cs e)) (nI 1) 2 hC2 hz3 (by decide) (by decide) (fun k hk hb => (sp_bit (e := e) (by omega) hb).2)) lk_X10_432 mc_X10_seeks dX10_years_125 hM.1 (by decide) rfl rfl (Nat.le_of_ble_eq_true rfl) (by decide) (by decide) (fun _ _ _ _ _ _ h => nomatch h.1) ?_
      rintro v1 n1 kd1 I1 J1 P1 ⟨h00, rfl, rfl, rfl, rfl, hfr, hfd⟩
      cases h00
      simp only [Option.toList, List.nil_append, List.cons_append]
      have hC1 := RR.rf hfr hC2
      have h01 : I1 m 0 = 0 := by rw [hfr.2 0 (by decide) (by decide), hf2 m (by omega)]; exact h0
      rw [show zR H M un cs (yrS H sd S, e.2) (nI (spB H cs e)) (nI 1) 2 = yrR H M un cs e sd S from rfl] at hfd ⊢
      rw [hg] at hfd ⊢
      refine r_istore dX10_years_128 (by decide) ?_
      refine r_iload dX10_years_130 rfl ?_
      refine r_iload dX10_years_132 rfl ?_
      refine r_if_eq (tgt := 149) dX10_years_134 (by decide) (fun _ => ?_) (fun hz => absurd (show _ from rfl) hz)
      refine r_iconst (v := nI 0) dX10_years_149 (by decide) ?_
      refine r_iadd dX10_years_150 ?_
      rw [nI_add]
      refine r_istore dX10_years_151 (by decide) ?_
      refine r_iinc (v := nI (k + 1)) dX10_years_153 rfl (nI_inc k) ?_
      refine r_goto (tgt := 54) dX10_years_156 (by decide) ?_
      by_cases hkY : k + 1 < Y
      · skip
        refine r_iload dX10_years_54 rfl ?_
        refine r_iload_n dX10_years_56 rfl ?_
        refine r_icmp_ge (tgt := 159) dX10_years_57 (by decide) (fun hz => absurd hz (show ¬ _ from (by rw [nI_leI (by omega) (by omega)]; omega))) (fun _ => ?_)
        refine r_iload dX10_years_60 rfl ?_
        refine r_if_eq (tgt := 159) dX10_years_62 (by decide) (fun _ => ?_) (fun hz => absurd (show _ from rfl) hz)
        exact hEf (by rw [← hal]; show (!(yrR H M un cs e sd S).2.2 && _) = false; rw [hs2]; rfl) _ (yrS H sd S) _ _ _ I1 hC1 h01 (fun a ha => by rw [hfr.1 a (by omega) (by omega) (by omega) (by omega), hf2 a (by omega)]; exact hB a ha) (fun j hj => by rw [hfr.1 _ (by omega) (by omega) (by omega) (by omega), hf2 _ (by omega)]; exact h33 j hj)
      · skip
        refine r_iload dX10_years_54 rfl ?_
        refine r_iload_n dX10_years_56 rfl ?_
        refine r_icmp_ge (tgt := 159) dX10_years_57 (by decide) (fun _ => ?_) (fun hz => absurd (show _ from (by rw [nI_leI (by omega) (by omega)]; omega)) hz)
        exact hEf (by rw [← hal]; show (!(yrR H M un cs e sd S).2.2 && _) = false; rw [hs2]; rfl) _ (yrS H sd S) _ _ _ I1 hC1 h01 (fun a ha => by rw [hfr.1 a (by omega) (by omega) (by omega) (by omega), hf2 a (by omega)]; exact hB a ha) (fun j hj => by rw [hfr.1 _ (by omega) (by omega) (by omega) (by omega), hf2 _ (by omega)]; exact h33 j hj)
    · have hs2 : (yrR H M un cs e sd S).2.2 = false := by simpa using hs2
      have hg : gdR (yrR H M un cs e sd S) = true := by rw [gdR_2 hlen, hs2]; rfl
      by_cases c1 : (yrR H M un cs e sd S).2.1.length = 1
      · skip
        refine r_iload dX10_years_54 rfl ?_
        refine r_iload_n dX10_years_56 rfl ?_
        refine r_icmp_ge (tgt := 159) dX10_years_57 (by decide) (fun hz => absurd hz (show ¬ _ from (by rw [nI_leI (by omega) (by omega)]; omega))) (fun _ => ?_)
        refine r_iload dX10_years_60 rfl ?_
        refine r_if_eq (tgt := 159) dX10_years_62 (by decide) (fun hz => absurd hz (show ¬ _ from (by decide))) (fun _ => ?_)
        refine r_iload_n dX10_years_65 rfl ?_
        refine r_ldcw dX10_years_66 ic_X10_474 ?_
        refine r_imul dX10_years_69 ?_
        refine r_sipush (v := nI 12345) dX10_years_70 (by decide) ?_
        refine r_iadd dX10_years_73 ?_
        rw [show sd * 1103515245 + nI 12345 = lcg sd from rfl]
        refine r_istore_n dX10_years_74 (by decide) ?_
        refine r_iload_n dX10_years_75 rfl ?_
        refine r_bipush (v := nI 16) dX10_years_76 (by decide) ?_
        refine r_ishr dX10_years_78 ?_
        refine r_sipush (v := nI 32767) dX10_years_79 (by decide) ?_
        refine r_iand dX10_years_82 ?_
        refine r_aload_n dX10_years_83 rfl ?_
        refine r_getI dX10_years_84 fl_X10_350 rfl hM.1 ?_
        rw [hH]
        refine r_irem dX10_years_87 (nI_ne0 hH0 (by omega)) ?_
        rw [dv_rem _ hH0 (by omega)]
        refine r_istore dX10_years_88 (by decide) ?_
        refine r_iload_n dX10_years_90 rfl ?_
        refine r_ldcw dX10_years_91 ic_X10_474 ?_
        refine r_imul dX10_years_94 ?_
        refine r_sipush (v := nI 12345) dX10_years_95 (by decide) ?_
        refine r_iadd dX10_years_98 ?_
        rw [show lcg sd * 1103515245 + nI 12345 = lcg (lcg sd) from rfl]
        refine r_istore_n dX10_years_99 (by decide) ?_
        refine r_aload_n dX10_years_100 rfl ?_
        refine r_getR dX10_years_101 fl_X10_13 rfl (kM_0 hM) (pM_4 hM) ?_
        refine r_iload dX10_years_104 rfl ?_
        refine r_iload_n dX10_years_106 rfl ?_
        refine r_bipush (v := nI 16) dX10_years_107 (by decide) ?_
        refine r_ishr dX10_years_109 ?_
        refine r_sipush (v := nI 32767) dX10_years_110 (by decide) ?_
        refine r_iand dX10_years_113 ?_
        refine r_bipush (v := nI 10) dX10_years_114 (by decide) ?_
        refine r_irem dX10_years_116 (by decide) ?_
        rw [dv_rem _ (by decide) (by decide)]
        refine r_iast dX10_years_117 (aM_4 hM) (nI_in8 8 (by omega) (by decide)) (nI_clamp (by omega)) ?_
        have hr2 := rL_turn (k := 0) (h := dv (lcg sd) % H) (v := dv (lcg (lcg sd)) % 10) (fun a1 a2 => absurd rfl a1) hC0.2.2.2.1
        have hr2 : rL (va_up I (m + 1) (va_up (I (m + 1)) (dv (lcg sd) % H) (nI (dv (lcg (lcg sd)) % 10)))) m H (yrS H sd S, e.2) := hr2
        have hC2 : RR m kd (va_up I (m + 1) (va_up (I (m + 1)) (dv (lcg sd) % H) (nI (dv (lcg (lcg sd)) % 10)))) P t T fp rr H M un cs tx (yrS H sd S, e.2) im wk := RR.up (I := I) (fun a a1 a2 a3 a4 a5 a6 a7 => am_up_n _ _ a3) (fun j hj => by rw [am_up_n _ _ (by omega)]) hr2 hC0
        have hf2 : ∀ a, a ≠ m + 1 → va_up I (m + 1) (va_up (I (m + 1)) (dv (lcg sd) % H) (nI (dv (lcg (lcg sd)) % 10))) a = I a := fun a a1 => am_up_n _ _ a1
        generalize va_up I (m + 1) (va_up (I (m + 1)) (dv (lcg sd) % H) (nI (dv (lcg (lcg sd)) % 10))) = I2 at hC2 hf2 ⊢
        have okl3 : okL H M (yrS H sd S, e.2) := okL_put (k := 0) (h := dv (lcg sd) % H) hss hok
        have hz3 : okZ t T H M cs (yrS H sd S, e.2) := ⟨hz.1, hz.2.1, okl3⟩
        have hSt2 := hC2.2.2.1
        have hLf2 := hC2.2.2.2.1
        refine r_aload_n dX10_years_118 rfl ?_
        refine r_aload_n dX10_years_119 rfl ?_
        refine r_virtE (c_X10_speaking m H hM hSt2.1.1 hH8) lk_X10_429 mc_X10_speaking dX10_years_120 hM.1 (by decide) rfl rfl (Nat.le_of_ble_eq_true rfl) ?_
        rw [sp_r hH8 hSt2 hLf2, show spB H cs (yrS H sd S, e.2) = spB H cs e from rfl]
        refine r_iconst (v := nI 1) dX10_years_123 (by decide) ?_
        refine r_iconst (v := nI 2) dX10_years_124 (by decide) ?_
        refine r_virt (kc2 := 0) (ks2 := 0) (q_seeksR m (nI (spB H cs e)) (nI 1) 2 hC2 hz3 (by decide) (by decide) (fun k hk hb => (sp_bit (e := e) (by omega) hb).2)) lk_X10_432 mc_X10_seeks dX10_years_125 hM.1 (by decide) rfl rfl (Nat.le_of_ble_eq_true rfl) (by decide) (by decide) (fun _ _ _ _ _ _ h => nomatch h.1) ?_
        rintro v1 n1 kd1 I1 J1 P1 ⟨h00, rfl, rfl, rfl, rfl, hfr, hfd⟩
        cases h00
        simp only [Option.toList, List.nil_append, List.cons_append]
        have hC1 := RR.rf hfr hC2
        have h01 : I1 m 0 = 0 := by rw [hfr.2 0 (by decide) (by decide), hf2 m (by omega)]; exact h0
        rw [show zR H M un cs (yrS H sd S, e.2) (nI (spB H cs e)) (nI 1) 2 = yrR H M un cs e sd S from rfl] at hfd ⊢
        rw [hg] at hfd ⊢
        refine r_istore dX10_years_128 (by decide) ?_
        refine r_iload dX10_years_130 rfl ?_
        refine r_iload dX10_years_132 rfl ?_
        refine r_if_eq (tgt := 149) dX10_years_134 (by decide) (fun hz => absurd hz (show ¬ _ from (by decide))) (fun _ => ?_)
        refine r_aload_n dX10_years_137 rfl ?_
        refine r_getI dX10_years_138 fl_X10_413 rfl hM.1 ?_
        rw [(hfd rfl).1]
        refine r_iconst (v := nI 1) dX10_years_141 (by decide) ?_
        refine r_icmp_ne (tgt := 149) dX10_years_142 (by decide) (fun hz => absurd (show _ from (by rw [c1])) hz) (fun _ => ?_)
        refine r_iconst (v := nI 1) dX10_years_145 (by decide) ?_
        refine r_goto (tgt := 150) dX10_years_146 (by decide) ?_
        refine r_iadd dX10_years_150 ?_
        rw [nI_add]
        refine r_istore dX10_years_151 (by decide) ?_
        refine r_iinc (v := nI (k + 1)) dX10_years_153 rfl (nI_inc k) ?_
        refine r_goto (tgt := 54) dX10_years_156 (by decide) ?_
        exact w_yearsR m Y s0 val al hH0 hH8 hM20 hEt hEf c (k + 1) (v + 1) (lcg (lcg sd)) (yrS H sd S) _ I1 (by omega) (by omega) hC1 ⟨hz.1, hz.2.1, okl3⟩ h01 (fun a ha => by rw [hfr.1 a (by omega) (by omega) (by omega) (by omega), hf2 a (by omega)]; exact hB a ha) (fun j hj => by rw [hfr.1 _ (by omega) (by omega) (by omega) (by omega), hf2 _ (by omega)]; exact h33 j hj) (by rw [← hal]; show _ = (!(yrR H M un cs e sd S).2.2 && _); rw [hs2]; rfl) (fun q => by rw [← hv q]; show _ = (if (yrR H M un cs e sd S).2.2 = true then -2 else _); rw [if_neg (by rw [hs2]; decide), if_pos c1])
      · skip
        refine r_iload dX10_years_54 rfl ?_
        refine r_iload_n dX10_years_56 rfl ?_
        refine r_icmp_ge (tgt := 159) dX10_years_57 (by decide) (fun hz => absurd hz (show ¬ _ from (by rw [nI_leI (by omega) (by omega)]; omega))) (fun _ => ?_)
        refine r_iload dX10_years_60 rfl ?_
        refine r_if_eq (tgt := 159) dX10_years_62 (by decide) (fun hz => absurd hz (show ¬ _ from (by decide))) (fun _ => ?_)
        refine r_iload_n dX10_years_65 rfl ?_
        refine r_ldcw dX10_years_66 ic_X10_474 ?_
        refine r_imul dX10_years_69 ?_
        refine r_sipush (v := nI 12345) dX10_years_70 (by decide) ?_
        refine r_iadd dX10_years_73 ?_
        rw [show sd * 1103515245 + nI 12345 = lcg sd from rfl]
        refine r_istore_n dX10_years_74 (by decide) ?_
        refine r_iload_n dX10_years_75 rfl ?_
        refine r_bipush (v := nI 16) dX10_years_76 (by decide) ?_
        refine r_ishr dX10_years_78 ?_
        refine r_sipush (v := nI 32767) dX10_years_79 (by decide) ?_
        refine r_iand dX10_years_82 ?_
        refine r_aload_n dX10_years_83 rfl ?_
        refine r_getI dX10_years_84 fl_X10_350 rfl hM.1 ?_
        rw [hH]
        refine r_irem dX10_years_87 (nI_ne0 hH0 (by omega)) ?_
        rw [dv_rem _ hH0 (by omega)]
        refine r_istore dX10_years_88 (by decide) ?_
        refine r_iload_n dX10_years_90 rfl ?_
        refine r_ldcw dX10_years_91 ic_X10_474 ?_
        refine r_imul dX10_years_94 ?_
        refine r_sipush (v := nI 12345) dX10_years_95 (by decide) ?_
        refine r_iadd dX10_years_98 ?_
        rw [show lcg sd * 1103515245 + nI 12345 = lcg (lcg sd) from rfl]
        refine r_istore_n dX10_years_99 (by decide) ?_
        refine r_aload_n dX10_years_100 rfl ?_
        refine r_getR dX10_years_101 fl_X10_13 rfl (kM_0 hM) (pM_4 hM) ?_
        refine r_iload dX10_years_104 rfl ?_
        refine r_iload_n dX10_years_106 rfl ?_
        refine r_bipush (v := nI 16) dX10_years_107 (by decide) ?_
        refine r_ishr dX10_years_109 ?_
        refine r_sipush (v := nI 32767) dX10_years_110 (by decide) ?_
        refine r_iand dX10_years_113 ?_
        refine r_bipush (v := nI 10) dX10_years_114 (by decide) ?_
        refine r_irem dX10_years_116 (by decide) ?_
        rw [dv_rem _ (by decide) (by decide)]
        refine r_iast dX10_years_117 (aM_4 hM) (nI_in8 8 (by omega) (by decide)) (nI_clamp (by omega)) ?_
        have hr2 := rL_turn (k := 0) (h := dv (lcg sd) % H) (v := dv (lcg (lcg sd)) % 10) (fun a1 a2 => absurd rfl a1) hC0.2.2.2.1
        have hr2 : rL (va_up I (m + 1) (va_up (I (m + 1)) (dv (lcg sd) % H) (nI (dv (lcg (lcg sd)) % 10)))) m H (yrS H sd S, e.2) := hr2
        have hC2 : RR m kd (va_up I (m + 1) (va_up (I (m + 1)) (dv (lcg sd) % H) (nI (dv (lcg (lcg sd)) % 10)))) P t T fp rr H M un cs tx (yrS H sd S, e.2) im wk := RR.up (I := I) (fun a a1 a2 a3 a4 a5 a6 a7 => am_up_n _ _ a3) (fun j hj => by rw [am_up_n _ _ (by omega)]) hr2 hC0
        have hf2 : ∀ a, a ≠ m + 1 → va_up I (m + 1) (va_up (I (m + 1)) (dv (lcg sd) % H) (nI (dv (lcg (lcg sd)) % 10))) a = I a := fun a a1 => am_up_n _ _ a1
        generalize va_up I (m + 1) (va_up (I (m + 1)) (dv (lcg sd) % H) (nI (dv (lcg (lcg sd)) % 10))) = I2 at hC2 hf2 ⊢
        have okl3 : okL H M (yrS H sd S, e.2) := okL_put (k := 0) (h := dv (lcg sd) % H) hss hok
        have hz3 : okZ t T H M cs (yrS H sd S, e.2) := ⟨hz.1, hz.2.1, okl3⟩
        have hSt2 := hC2.2.2.1
        have hLf2 := hC2.2.2.2.1
        refine r_aload_n dX10_years_118 rfl ?_
        refine r_aload_n dX10_years_119 rfl ?_
        refine r_virtE (c_X10_speaking m H hM hSt2.1.1 hH8) lk_X10_429 mc_X10_speaking dX10_years_120 hM.1 (by decide) rfl rfl (Nat.le_of_ble_eq_true rfl) ?_
        rw [sp_r hH8 hSt2 hLf2, show spB H cs (yrS H sd S, e.2) = spB H cs e from rfl]
        refine r_iconst (v := nI 1) dX10_years_123 (by decide) ?_
        refine r_iconst (v := nI 2) dX10_years_124 (by decide) ?_
        refine r_virt (kc2 := 0) (ks2 := 0) (q_seeksR m (nI (spB H cs e)) (nI 1) 2 hC2 hz3 (by decide) (by decide) (fun k hk hb => (sp_bit (e := e) (by omega) hb).2)) lk_X10_432 mc_X10_seeks dX10_years_125 hM.1 (by decide) rfl rfl (Nat.le_of_ble_eq_true rfl) (by decide) (by decide) (fun _ _ _ _ _ _ h => nomatch h.1) ?_
        rintro v1 n1 kd1 I1 J1 P1 ⟨h00, rfl, rfl, rfl, rfl, hfr, hfd⟩
        cases h00
        simp only [Option.toList, List.nil_append, List.cons_append]
        have hC1 := RR.rf hfr hC2
        have h01 : I1 m 0 = 0 := by rw [hfr.2 0 (by decide) (by decide), hf2 m (by omega)]; exact h0
        rw [show zR H M un cs (yrS H sd S, e.2) (nI (spB H cs e)) (nI 1) 2 = yrR H M un cs e sd S from rfl] at hfd ⊢
        rw [hg] at hfd ⊢
        refine r_istore dX10_years_128 (by decide) ?_
        refine r_iload dX10_years_130 rfl ?_
        refine r_iload dX10_years_132 rfl ?_
        refine r_if_eq (tgt := 149) dX10_years_134 (by decide) (fun hz => absurd hz (show ¬ _ from (by decide))) (fun _ => ?_)
        refine r_aload_n dX10_years_137 rfl ?_
        refine r_getI dX10_years_138 fl_X10_413 rfl hM.1 ?_
        rw [(hfd rfl).1]
        refine r_iconst (v := nI 1) dX10_years_141 (by decide) ?_
        refine r_icmp_ne (tgt := 149) dX10_years_142 (by decide) (fun _ => ?_) (fun hz => absurd hz (show ¬ _ from (by rw [nI_eq (by omega) (by decide)]; exact c1)))
        refine r_iconst (v := nI 0) dX10_years_149 (by decide) ?_
        refine r_iadd dX10_years_150 ?_
        rw [nI_add]
        refine r_istore dX10_years_151 (by decide) ?_
        refine r_iinc (v := nI (k + 1)) dX10_years_153 rfl (nI_inc k) ?_
        refine r_goto (tgt := 54) dX10_years_156 (by decide) ?_
        exact w_yearsR m Y s0 val al hH0 hH8 hM20 hEt hEf c (k + 1) (v + 0) (lcg (lcg sd)) (yrS H sd S) _ I1 (by omega) (by omega) hC1 ⟨hz.1, hz.2.1, okl3⟩ h01 (fun a ha => by rw [hfr.1 a (by omega) (by omega) (by omega) (by omega), hf2 a (by omega)]; exact hB a ha) (fun j hj => by rw [hfr.1 _ (by omega) (by omega) (by omega) (by omega), hf2 _ (by omega)]; exact h33 j hj) (by rw [← hal]; show _ = (!(yrR H M un cs e sd S).2.2 && _); rw [hs2]; rfl) (fun q => by rw [← hv q]; show _ = (if (yrR H M un cs e sd S).2.2 = true then -2 else _); rw [if_neg (by rw [hs2]; decide), if_neg c1])

set_option maxHeartbeats 4000000 in
set_option maxRecDepth 100000 in
theorem q_years (m : Nat) (Y : Nat) (s0 : Int32) {t : Nat} {T : Nat → Nat} {fp : Int32} {rr : Nat → Int32} {H M : Nat} {un : Bool} {cs : Nat → List Nat} {tx : Nat → List Int32} {e : Lf} {im : Option Lf} {wk : Option (List Nat)} {n : Nat} {kd : mK} {I : mI} {J : mJ} {P : mP} (hC : RR m kd I P t T fp rr H M un cs tx e im wk) (hz : okZ t T H M cs e) (hH0 : 0 < H) (hY : Y ≤ 30) : Ct yX10_years cX10_years 8 (some .int) 10 0 0 [.ref m, .int s0, .int (nI Y)] n kd I J P (pQ m n kd I J P (some (.int (yrN H M un cs e Y s0 0 e.1))) 0 (RX m t T fp rr H M un cs tx e im wk)) := by
  refine ct_of 5 (by decide +kernel) (Nat.le_of_ble_eq_true rfl) rfl ?_
  refine r_aload_n dX10_years_0 rfl ?_
  refine r_iconst (v := nI 0) dX10_years_1 (by decide) ?_
  refine r_putI dX10_years_2 fl_X10_193 rfl rfl (kM_0 hC.1) ?_
  refine q_th hC (fun I hC h0 => ?_)
  have hC0 := hC
  have hz0 := hz
  obtain ⟨hM, hT, hSt, hLf, hIm, hWk⟩ := hC
  obtain ⟨okt, oks, okl⟩ := hz
  have hH8 : H ≤ 8 := oks.2.1
  have hM20 : 2 ≤ M ∧ M ≤ 20 := oks.1
  have hH : I m 1 = nI H := hSt.1.1
  have hMo : I m 2 = nI M := hSt.1.2.1
  refine r_aload_n dX10_years_5 rfl ?_
  refine r_iload_n dX10_years_6 rfl ?_
  refine r_iconst (v := nI 0) dX10_years_7 (by decide) ?_
  refine r_bipush (v := nI 30) dX10_years_8 (by decide) ?_
  refine r_statE (c_X10_within (nI Y) (nI 0) (nI 30)) lk_X10_369 mc_X10_within dX10_years_10 (by decide) rfl rfl (Nat.le_of_ble_eq_true rfl) ?_
  rw [show (!decide (nI Y < nI 0) && !decide (nI 30 < nI Y)) = true from wi_of (by omega) hY (by decide)]
  refine r_iconst (v := nI 1) dX10_years_13 (by decide) ?_
  refine r_virtE (c_X10_right m true (nI 1) hM h0 (by decide)) lk_X10_343 mc_X10_right dX10_years_14 (kM_0 hM) (by decide) rfl rfl (Nat.le_of_ble_eq_true rfl) ?_
  rw [thM_ok]
  refine r_if_ne (tgt := 22) dX10_years_17 (by decide) (fun _ => ?_) (fun hz => absurd hz (show ¬ _ from (by decide)))
  refine r_aload_n dX10_years_22 rfl ?_
  refine r_getI dX10_years_23 fl_X10_350 rfl hM.1 ?_
  rw [hH]
  refine r_if_ne (tgt := 31) dX10_years_26 (by decide) (fun _ => ?_) (fun hz => absurd hz (show ¬ _ from (nI_ne0 (by omega) (by omega))))
  refine r_aload_n dX10_years_31 rfl ?_
  refine r_aload_n dX10_years_32 rfl ?_
  refine r_getR dX10_years_33 fl_X10_13 rfl (kM_0 hM) (pM_4 hM) ?_
  refine r_aload_n dX10_years_36 rfl ?_
  refine r_getR dX10_years_37 fl_X10_121 rfl (kM_0 hM) (pM_65 hM) ?_
  refine r_virtV (c_X10_copies m (m + 1) (m + 33) 8 8 (aM_4 hM) (aM_65 hM) (by omega) (by decide) (by decide) (by decide)) lk_X10_356 mc_X10_copies dX10_years_40 (kM_0 hM) (by decide) rfl rfl (Nat.le_of_ble_eq_true rfl) ?_
  refine r_iload_n dX10_years_43 rfl ?_
  refine r_istore_n dX10_years_44 (by decide) ?_
  refine r_iconst (v := nI 0) dX10_years_45 (by decide) ?_
  refine r_istore dX10_years_46 (by decide) ?_
  refine r_iconst (v := nI 1) dX10_years_48 (by decide) ?_
  refine r_istore dX10_years_49 (by decide) ?_
  refine r_iconst (v := nI 0) dX10_years_51 (by decide) ?_
  refine r_istore dX10_years_52 (by decide) ?_
  have hC2 : RR m kd (va_up I (m + 33) (fun j => if j < 8 then I (m + 1) j else I (m + 33) j)) P t T fp rr H M un cs tx e im wk := RR.qu (I := I) (fun a a1 a2 a3 a4 => am_up_n _ _ (by omega)) (fun j hj => by rw [am_up_n _ _ (by omega)]) hC0
  refine w_yearsR m Y s0 (yrN H M un cs e Y s0 0 e.1) (yrA H M un cs e Y s0 e.1) (I0 := I) hH0 hH8 hM20 (fun hg sd' S' k' z7 I' hC' h0' hB' h33' => ?_) (fun hg sd' S' k' v' z7 I' hC' h0' hB' h33' => ?_) Y 0 0 s0 e.1 _ _ ⟨by omega, hY⟩ (Nat.le_refl _) hC2 hz0 (by rw [am_up_n _ _ (by omega)]; exact h0) (fun a ha => am_up_n _ _ (by omega)) (fun j hj => by rw [am_up_s, if_pos hj]) rfl (fun _ => rfl)
  · skip
    refine r_aload_n dX10_years_159 rfl ?_
    refine r_aload_n dX10_years_160 rfl ?_
    refine r_getR dX10_years_161 fl_X10_121 rfl (kM_0 hM) (pM_65 hM) ?_
    refine r_aload_n dX10_years_164 rfl ?_
    refine r_getR dX10_years_165 fl_X10_13 rfl (kM_0 hM) (pM_4 hM) ?_
    refine r_virtV (c_X10_copies m (m + 33) (m + 1) 8 8 (aM_65 hM) (aM_4 hM) (by omega) (by decide) (by decide) (by decide)) lk_X10_356 mc_X10_copies dX10_years_168 (kM_0 hM) (by decide) rfl rfl (Nat.le_of_ble_eq_true rfl) ?_
    refine r_iload dX10_years_171 rfl ?_
    refine r_if_eq (tgt := 181) dX10_years_173 (by decide) (fun hz => absurd hz (show ¬ _ from (by decide))) (fun _ => ?_)
    refine r_iload dX10_years_176 rfl ?_
    refine r_goto (tgt := 183) dX10_years_178 (by decide) ?_
    refine r_iret rfl dX10_years_183 ?_
    refine ⟨rfl, rfl, rfl, rfl, fun a ha => ⟨by rw [am_up_n _ _ (by omega)]; exact hB' a ha, rfl⟩, by rw [am_up_n _ _ (by omega)]; exact h0', RR.up (I := I') (fun a a1 a2 a3 a4 a5 a6 a7 => am_up_n _ _ a3) (fun j hj => by rw [am_up_n _ _ (by omega)]) ?_ hC'⟩
    obtain ⟨r1, r2, r3⟩ := hC'.2.2.2.1
    refine ⟨fun h hh => ?_, by rw [am_up_n _ _ (show m ≠ m + 1 by omega), am_up_n _ _ (show m + 23 ≠ m + 1 by omega)]; exact r2, by rw [am_up_n _ _ (show m ≠ m + 1 by omega), am_up_n _ _ (show m + 24 ≠ m + 1 by omega)]; exact r3⟩
    rw [am_up_s, am_up_n _ _ (show m + 2 ≠ m + 1 by omega), am_up_n _ _ (show m + 4 ≠ m + 1 by omega), if_pos (show h < 8 by omega), h33' h (by omega)]
    exact ⟨(hLf.1 h hh).1, (r1 h hh).2⟩
  · rw [yrN_f hg]
    refine r_aload_n dX10_years_159 rfl ?_
    refine r_aload_n dX10_years_160 rfl ?_
    refine r_getR dX10_years_161 fl_X10_121 rfl (kM_0 hM) (pM_65 hM) ?_
    refine r_aload_n dX10_years_164 rfl ?_
    refine r_getR dX10_years_165 fl_X10_13 rfl (kM_0 hM) (pM_4 hM) ?_
    refine r_virtV (c_X10_copies m (m + 33) (m + 1) 8 8 (aM_65 hM) (aM_4 hM) (by omega) (by decide) (by decide) (by decide)) lk_X10_356 mc_X10_copies dX10_years_168 (kM_0 hM) (by decide) rfl rfl (Nat.le_of_ble_eq_true rfl) ?_
    refine r_iload dX10_years_171 rfl ?_
    refine r_if_eq (tgt := 181) dX10_years_173 (by decide) (fun _ => ?_) (fun hz => absurd (show _ from rfl) hz)
    refine r_bipush (v := (-2)) dX10_years_181 (by decide) ?_
    refine r_iret rfl dX10_years_183 ?_
    refine ⟨rfl, rfl, rfl, rfl, fun a ha => ⟨by rw [am_up_n _ _ (by omega)]; exact hB' a ha, rfl⟩, by rw [am_up_n _ _ (by omega)]; exact h0', RR.up (I := I') (fun a a1 a2 a3 a4 a5 a6 a7 => am_up_n _ _ a3) (fun j hj => by rw [am_up_n _ _ (by omega)]) ?_ hC'⟩
    obtain ⟨r1, r2, r3⟩ := hC'.2.2.2.1
    refine ⟨fun h hh => ?_, by rw [am_up_n _ _ (show m ≠ m + 1 by omega), am_up_n _ _ (show m + 23 ≠ m + 1 by omega)]; exact r2, by rw [am_up_n _ _ (show m ≠ m + 1 by omega), am_up_n _ _ (show m + 24 ≠ m + 1 by omega)]; exact r3⟩
    rw [am_up_s, am_up_n _ _ (show m + 2 ≠ m + 1 by omega), am_up_n _ _ (show m + 4 ≠ m + 1 by omega), if_pos (show h < 8 by omega), h33' h (by omega)]
    exact ⟨(hLf.1 h hh).1, (r1 h hh).2⟩


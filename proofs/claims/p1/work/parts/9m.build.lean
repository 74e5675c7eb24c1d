/-! THE NEW OBJECT: riddles for a first house; the class -/
theorem nO_nI {k : Nat} (h : k < 2 ^ 31) : nO (nI k) = k := by
  have := nO_eq (nI k)
  have h2 : nO (nI k) < 2 ^ 32 := (nI k).toBitVec.isLt
  unfold nO
  show (BitVec.ofNat 32 k).toNat = k
  rw [BitVec.toNat_ofNat]
  omega
def csB (c : Nat) : Nat → List Nat := fun h => if h = 0 then [10000, c, 20009] else []
theorem csB_ok : ∀ c, c < 10 → lkm 0 [10000, c, 20009] = 1 := by decide
theorem csB_OK (c : Nat) (hc : c < 10) : csOK (csB c) 1 := by
  intro h hh
  have e : h = 0 := by omega
  subst e
  have hl := csB_ok c hc
  refine ⟨⟨by show lkm 0 [10000, c, 20009] < 2; rw [hl]; decide, fun t ht hm => ?_, fun _ => ?_⟩, by show 3 ≤ 5; decide, fun d hd => ?_⟩
  · show (lkm 0 [10000, c, 20009]).testBit t = true
    rw [hl]
    have hm : 10000 + t ∈ [10000, c, 20009] := hm
    simp at hm
    rcases hm with q | q | q
    · subst q; decide
    · omega
    · omega
  · show okd [10000, c, 20009] 0
    simp [okd, dep1, show c < 20003 by omega]
  · have hd : d ∈ [10000, c, 20009] := hd
    simp at hd
    omega
theorem rsB : ∀ c, c < 10 → 1 ≤ c → (rsT false (csB c) 9 1 2).2.2 = false ∧ (rsT false (csB c) 9 1 2).2.1.length = 1 := by decide +kernel
theorem st_B {c s : Nat} {I : mI} (hc : c < 10) (h0 : I s 0 = nI 1) (h3 : I s 3 = nI 1) (l0 : I (s + 1) 0 = nI 1) (f0 : I (s + 3) 0 = nI 0) (t0 : I (s + 4) 0 = nI 3) (k0 : I (s + 2) 0 = nI 10000) (k1 : I (s + 2) 1 = nI c) (k2 : I (s + 2) 2 = nI 20009) : stM (csB c) 1 I s := by
  refine ⟨h0, fun i hi => ?_, fun h hh => ?_⟩
  · rw [h3, bt_nI 1 hi]
    by_cases e : i = 0
    · subst e; rfl
    · rw [show Nat.testBit 1 i = false from by
        have := Nat.testBit_two_pow (n := 0) (m := i)
        rw [Nat.pow_zero] at this
        rw [this]
        simp
        omega]
      simp
      omega
  · have e : h = 0 := by omega
    subst e
    refine ⟨by rw [l0]; show nI 1 = nI (lkm 0 [10000, c, 20009]); rw [csB_ok c hc], f0, t0, fun j hj => ?_⟩
    have hj : j < 3 := hj
    show I (s + 2) (0 + j) = nI ([10000, c, 20009].getD j 0)
    rw [Nat.zero_add]
    rcases (by omega : j = 0 ∨ j = 1 ∨ j = 2) with e | e | e <;> subst e
    · exact k0
    · exact k1
    · exact k2
set_option maxHeartbeats 4000000 in
set_option maxRecDepth 100000 in
theorem c_begin1 (s : Nat) {n : Nat} {kd : mK} {I : mI} {J : mJ} {P : mP} (hS : kS kd P s) (h0 : I s 0 = nI 1) (h3 : I s 3 = nI 0 ∨ I s 3 = nI 1) (f0 : I (s + 3) 0 = nI 0) : Ct yX7_beginRiddle cX7_beginRiddle 2 none 1 0 0 [.ref s] n kd I J P (fun z n' kd' I' J' P' => z = .inl none ∧ n' = n ∧ kd' = kd ∧ J' = J ∧ P' = P ∧ (∀ a, (a < s ∨ s + 7 < a) → I' a = I a) ∧ I' s 0 = nI 1 ∧ I' s 1 = I s 1 ∧ I' s 2 = I s 2 ∧ I' s 3 = nI 1 ∧ I' s 6 = nI 0 ∧ I' (s + 3) 0 = nI 0 ∧ I' (s + 1) 0 = nI 0) := by
  have e := sI_self s I
  unfold ssOf at e
  have hn : nO (I s 0) = 1 := by rw [h0]; exact nO_nI (by decide)
  have hc := c_X7_beginRiddle (n := n) (J := J) (I := I) s (nO (I s 0)) (nO (I s 6)) (nO (I s 10)) (I s 1) (I s 2) (I s 3) (I (s + 1)) (I (s + 2)) (I (s + 3)) (I (s + 4)) (I (s + 5)) (I (s + 6)) (I (s + 7)) 0 0 hS (by rw [hn]) (by decide) f0 (by decide)
  rw [e] at hc
  refine hc.mono (fun z n1 kd1 I1 J1 P1 hx => ?_)
  obtain ⟨q0, rfl, rfl, rfl, rfl, rfl⟩ := hx
  rw [show SS.begin (nO (I s 0), I s 1, I s 2, I s 3, nO (I s 6), nO (I s 10), I (s + 1), I (s + 2), I (s + 3), I (s + 4), I (s + 5), I (s + 6), I (s + 7)) = (1, I s 1, I s 2, I s 3 ||| (nI 1 <<< (nI 0 &&& 31)), (I (s + 3) 0).toNatClampNeg, nO (I s 10), va_up (I (s + 1)) 0 (nI 0), I (s + 2), I (s + 3), va_up (I (s + 4)) 0 (I (s + 3) 0), I (s + 5), I (s + 6), I (s + 7)) from by rw [hn]; rfl]
  refine ⟨q0, rfl, rfl, rfl, rfl, fun a ha => sI_ne _ _ ha, ?_, ?_, ?_, ?_, ?_, ?_, ?_⟩
  · simp [sI, sRow]
  · simp [sI, sRow]
  · simp [sI, sRow]
  · simp only [sI, sRow, if_true]
    rw [if_neg (by decide), if_neg (by decide), if_neg (by decide)]
    rcases h3 with q | q <;> rw [q] <;> decide
  · simp only [sI, sRow, if_true]
    rw [if_neg (by decide), if_neg (by decide), if_neg (by decide), if_neg (by decide), f0]
    decide
  · rw [sI_acf, f0]
  · rw [sI_alo, am_up_s]

set_option maxHeartbeats 4000000 in
set_option maxRecDepth 100000 in
theorem c_code1 (s k : Nat) (c : Int32) {n : Nat} {kd : mK} {I : mI} {J : mJ} {P : mP} (hS : kS kd P s) (h0 : I s 0 = nI 1) (h6 : I s 6 = nI k) (hk : k < 520) : Ct yX7_addCode cX7_addCode 2 none 1 0 0 [.ref s, .int c] n kd I J P (fun z n' kd' I' J' P' => z = .inl none ∧ n' = n ∧ kd' = kd ∧ J' = J ∧ P' = P ∧ (∀ a, (a < s ∨ s + 7 < a) → I' a = I a) ∧ I' s 0 = nI 1 ∧ I' s 1 = I s 1 ∧ I' s 2 = I s 2 ∧ I' s 3 = I s 3 ∧ I' s 6 = nI (k + 1) ∧ I' (s + 3) = I (s + 3) ∧ I' (s + 4) 0 = nI (k + 1) ∧ I' (s + 2) = va_up (I (s + 2)) k c ∧ I' (s + 1) 0 = (if nI 10000 ≤ c ∧ c < nI 20000 then I (s + 1) 0 ||| (nI 1 <<< ((c - nI 10000) &&& 31)) else I (s + 1) 0)) := by
  have e := sI_self s I
  unfold ssOf at e
  have hn : nO (I s 0) = 1 := by rw [h0]; exact nO_nI (by decide)
  have h6n : nO (I s 6) = k := by rw [h6]; exact nO_nI (by omega)
  have hc := c_X7_addCode (n := n) (J := J) (I := I) s (nO (I s 0)) (nO (I s 6)) (nO (I s 10)) (I s 1) (I s 2) (I s 3) (I (s + 1)) (I (s + 2)) (I (s + 3)) (I (s + 4)) (I (s + 5)) (I (s + 6)) (I (s + 7)) 0 c hS (by rw [hn]) (by decide) (by rw [h6n]; omega)
  rw [e] at hc
  refine hc.mono (fun z n1 kd1 I1 J1 P1 hx => ?_)
  obtain ⟨q0, rfl, rfl, rfl, rfl, rfl⟩ := hx
  rw [show SS.code (nO (I s 0), I s 1, I s 2, I s 3, nO (I s 6), nO (I s 10), I (s + 1), I (s + 2), I (s + 3), I (s + 4), I (s + 5), I (s + 6), I (s + 7)) c = (1, I s 1, I s 2, I s 3, k + 1, nO (I s 10), if nI 10000 ≤ c ∧ c < nI 20000 then va_up (I (s + 1)) 0 (I (s + 1) 0 ||| (nI 1 <<< ((c - nI 10000) &&& 31))) else I (s + 1), va_up (I (s + 2)) k c, I (s + 3), va_up (I (s + 4)) 0 (nI (k + 1)), I (s + 5), I (s + 6), I (s + 7)) from by
    rw [hn, h6n]
    show (if 1 = 0 ∨ 520 ≤ k then _ else _) = _
    rw [if_neg (by omega)]]
  refine ⟨q0, rfl, rfl, rfl, rfl, fun a ha => sI_ne _ _ ha, ?_, ?_, ?_, ?_, ?_, ?_, ?_, ?_, ?_⟩
  · simp [sI, sRow]
  · simp [sI, sRow]
  · simp [sI, sRow]
  · simp [sI, sRow]
  · simp [sI, sRow]
  · rw [sI_acf]
  · rw [sI_act, am_up_s]
  · rw [sI_aco]
  · rw [sI_alo]
    split
    · rw [am_up_s]
    · rfl

def bI (I : mI) (s : Nat) : Prop := I s 0 = nI 1 ∧ I s 1 = nI 9 ∧ I s 2 = 0 ∧ (I s 3 = nI 0 ∨ I s 3 = nI 1) ∧ I (s + 3) 0 = nI 0
def lI0 (I : mI) (l : Nat) : Prop := I l 2 = nI 0 ∧ I l 7 = nI 0 ∧ ∀ j, j < 8 → I (l + 1) j = nI 0 ∧ I (l + 2) j = nI 0
def cbG (n : Nat) (kd : mK) (I : mI) (J : mJ) (P : mP) (o g : Nat) (nm : Int32) : am_Post := fun z n' kd' I' J' P' => z = .inl (some (.int (nI 1))) ∧ n' = n ∧ kd' = kd ∧ kX kd P' o (o + 3) (o + 13) (o + 23) (o + 29) ∧ (∀ a, o + 69 ≤ a → I' a = I a ∧ J' a = J a ∧ P' a = P a) ∧ bI I' (o + 13) ∧ lI0 I' (o + 29) ∧ I' (o + 47) 3 = nI (g + 1) ∧ I' (o + 47) 4 = (if g = 0 then nm else I (o + 47) 4)
theorem dX0_countRiddle_0 : decode cX0_countRiddle 0 = .ok (.aload_n 1, 1) := by decide +kernel
theorem dX0_countRiddle_1 : decode cX0_countRiddle 1 = .ok (.sipush 20009, 3) := by decide +kernel
theorem dX0_countRiddle_4 : decode cX0_countRiddle 4 = .ok (.invokevirtual 86, 3) := by decide +kernel
theorem dX0_countRiddle_7 : decode cX0_countRiddle 7 = .ok (.aload_n 0, 1) := by decide +kernel
theorem dX0_countRiddle_8 : decode cX0_countRiddle 8 = .ok (.getfield 12, 3) := by decide +kernel
theorem dX0_countRiddle_11 : decode cX0_countRiddle 11 = .ok (.aload_n 1, 1) := by decide +kernel
theorem dX0_countRiddle_12 : decode cX0_countRiddle 12 = .ok (.aload_n 2, 1) := by decide +kernel
theorem dX0_countRiddle_13 : decode cX0_countRiddle 13 = .ok (.aload_n 1, 1) := by decide +kernel
theorem dX0_countRiddle_14 : decode cX0_countRiddle 14 = .ok (.aload_n 2, 1) := by decide +kernel
theorem dX0_countRiddle_15 : decode cX0_countRiddle 15 = .ok (.invokevirtual 32, 3) := by decide +kernel
theorem dX0_countRiddle_18 : decode cX0_countRiddle 18 = .ok (.iconst 1, 1) := by decide +kernel
theorem dX0_countRiddle_19 : decode cX0_countRiddle 19 = .ok (.invokevirtual 38, 3) := by decide +kernel
theorem dX0_countRiddle_22 : decode cX0_countRiddle 22 = .ok (.aload_n 0, 1) := by decide +kernel
theorem dX0_countRiddle_23 : decode cX0_countRiddle 23 = .ok (.getfield 12, 3) := by decide +kernel
theorem dX0_countRiddle_26 : decode cX0_countRiddle 26 = .ok (.iconst 2, 1) := by decide +kernel
theorem dX0_countRiddle_27 : decode cX0_countRiddle 27 = .ok (.invokevirtual 42, 3) := by decide +kernel
theorem dX0_countRiddle_30 : decode cX0_countRiddle 30 = .ok (.istore 4, 2) := by decide +kernel
theorem dX0_countRiddle_32 : decode cX0_countRiddle 32 = .ok (.iload 4, 2) := by decide +kernel
theorem dX0_countRiddle_34 : decode cX0_countRiddle 34 = .ok (.iconst 1, 1) := by decide +kernel
theorem dX0_countRiddle_35 : decode cX0_countRiddle 35 = .ok (.if_icmp .ne 32, 3) := by decide +kernel
theorem dX0_countRiddle_38 : decode cX0_countRiddle 38 = .ok (.aload_n 0, 1) := by decide +kernel
theorem dX0_countRiddle_39 : decode cX0_countRiddle 39 = .ok (.aload_n 0, 1) := by decide +kernel
theorem dX0_countRiddle_40 : decode cX0_countRiddle 40 = .ok (.getfield 25, 3) := by decide +kernel
theorem dX0_countRiddle_43 : decode cX0_countRiddle 43 = .ok (.ifCond .ne 7, 3) := by decide +kernel
theorem dX0_countRiddle_46 : decode cX0_countRiddle 46 = .ok (.iload_n 3, 1) := by decide +kernel
theorem dX0_countRiddle_47 : decode cX0_countRiddle 47 = .ok (.goto 7, 3) := by decide +kernel
theorem dX0_countRiddle_50 : decode cX0_countRiddle 50 = .ok (.aload_n 0, 1) := by decide +kernel
theorem dX0_countRiddle_51 : decode cX0_countRiddle 51 = .ok (.getfield 29, 3) := by decide +kernel
theorem dX0_countRiddle_54 : decode cX0_countRiddle 54 = .ok (.putfield 29, 3) := by decide +kernel
theorem dX0_countRiddle_57 : decode cX0_countRiddle 57 = .ok (.aload_n 0, 1) := by decide +kernel
theorem dX0_countRiddle_58 : decode cX0_countRiddle 58 = .ok (.dup, 1) := by decide +kernel
theorem dX0_countRiddle_59 : decode cX0_countRiddle 59 = .ok (.getfield 25, 3) := by decide +kernel
theorem dX0_countRiddle_62 : decode cX0_countRiddle 62 = .ok (.iconst 1, 1) := by decide +kernel
theorem dX0_countRiddle_63 : decode cX0_countRiddle 63 = .ok (.iadd, 1) := by decide +kernel
theorem dX0_countRiddle_64 : decode cX0_countRiddle 64 = .ok (.putfield 25, 3) := by decide +kernel
theorem dX0_countRiddle_67 : decode cX0_countRiddle 67 = .ok (.iload 4, 2) := by decide +kernel
theorem dX0_countRiddle_69 : decode cX0_countRiddle 69 = .ok (.bipush (-2), 2) := by decide +kernel
theorem dX0_countRiddle_71 : decode cX0_countRiddle 71 = .ok (.if_icmp .eq 7, 3) := by decide +kernel
theorem dX0_countRiddle_74 : decode cX0_countRiddle 74 = .ok (.iconst 1, 1) := by decide +kernel
theorem dX0_countRiddle_75 : decode cX0_countRiddle 75 = .ok (.goto 4, 3) := by decide +kernel
theorem dX0_countRiddle_78 : decode cX0_countRiddle 78 = .ok (.iconst 0, 1) := by decide +kernel
theorem dX0_countRiddle_79 : decode cX0_countRiddle 79 = .ok (.ireturn, 1) := by decide +kernel
set_option maxHeartbeats 4000000 in
set_option maxRecDepth 100000 in
theorem c_count1 (o c g : Nat) (nm : Int32) {n : Nat} {kd : mK} {I : mI} {J : mJ} {P : mP} (hX : kX kd P o (o + 3) (o + 13) (o + 23) (o + 29)) (hc : c < 10) (hc1 : 1 ≤ c) (hg : g < 100) (h0 : I (o + 13) 0 = nI 1) (h1 : I (o + 13) 1 = nI 9) (h2 : I (o + 13) 2 = 0) (h3 : I (o + 13) 3 = nI 1) (h6 : I (o + 13) 6 = nI 2) (f0 : I (o + 13 + 3) 0 = nI 0) (l0 : I (o + 13 + 1) 0 = nI 1) (k0 : I (o + 13 + 2) 0 = nI 10000) (k1 : I (o + 13 + 2) 1 = nI c) (hl : lI0 I (o + 29)) (hgd : I (o + 47) 3 = nI g) : Ct yX0_countRiddle cX0_countRiddle 5 (some .boolean) 8 0 0 [.ref (o + 47), .ref (o + 13), .ref (o + 29), .int nm] n kd I J P (cbG n kd I J P o g nm) := by
  have hX0 := hX
  obtain ⟨⟨c0, c1, c2⟩, ⟨s3, s13⟩, ⟨l23, l29, l35⟩, ⟨q41, a47, g56, w58, r61, d66, p67⟩, ⟨e0, e3, e8, e10, e12, e13, e14, e15, e16, e17⟩, ⟨e4, e5, e6, e7⟩, hbs, hfl, ho⟩ := hX
  refine ct_of 1 (by decide +kernel) (Nat.le_of_ble_eq_true rfl) rfl ?_
  refine r_aload_n dX0_countRiddle_0 rfl ?_
  refine r_sipush (v := nI 20009) dX0_countRiddle_1 (by decide) ?_
  refine r_virt (c_code1 (o + 13) 2 (nI 20009) s13 h0 h6 (by decide)) lk_X0_86 mc_X7_addCode dX0_countRiddle_4 s13.1 (by decide) rfl rfl (Nat.le_of_ble_eq_true rfl) (Nat.le_of_eq (Nat.zero_add _)) (Nat.le_of_eq (Nat.zero_add _)) (fun _ _ _ _ _ _ h => nomatch h.1) ?_
  rintro v n1 kd1 I1 J1 P1 ⟨q0, rfl, rfl, rfl, rfl, hf, u0, u1, u2, u3, u6, uf, ut, uc, ul⟩
  cases q0
  simp only [Option.toList, List.nil_append]
  rw [if_neg (by decide)] at ul
  have hl2 : I1 (o + 29) = I (o + 29) := hf _ (by omega)
  have hl3 : I1 (o + 29 + 1) = I (o + 29 + 1) := hf _ (by omega)
  have hl4 : I1 (o + 29 + 2) = I (o + 29 + 2) := hf _ (by omega)
  have hst : stM (csB c) 1 I1 (o + 13) := st_B hc u0 (u3.trans h3) (ul.trans l0) (by rw [uf]; exact f0) ut (by rw [uc, am_up_n _ _ (by decide)]; exact k0) (by rw [uc, am_up_n _ _ (by decide)]; exact k1) (by rw [uc, am_up_s])
  have hcl := cl_seed (l := o + 29) (Lt := so0) (un := false) (M := 9) (csB_OK c hc) (by decide) hst (u1.trans h1) (by rw [u2, h2]; rfl) (by rw [hl2]; exact hl.2.1)
  have hr : (I1 (o + 13) 3 &&& (I1 (o + 29) 2 ^^^ (-1))) = nI (riB (csB c) 1) := by rw [hl2, hl.1, and_m1, st_riB hst]
  have hz : ∀ k, k < 1 → I1 (o + 29 + 1) k = nI 0 ∧ I1 (o + 29 + 2) k = nI 0 := fun k hk => by rw [hl3, hl4]; exact hl.2.2 k (by omega)
  have hsk := rsT_eq (un := false) (Lt := so0) (M := 9) (E := 2) (by decide) (by decide) hr hz
  have hrs := rsB c hc hc1
  have hgd1 : I1 (o + 47) 3 = nI g := by rw [hf (o + 47) (by omega)]; exact hgd
  refine r_aload_n dX0_countRiddle_7 rfl ?_
  refine r_getR dX0_countRiddle_8 fl_X0_12 rfl a47.1 a47.2.2.2.2.1 ?_
  refine r_aload_n dX0_countRiddle_11 rfl ?_
  refine r_aload_n dX0_countRiddle_12 rfl ?_
  refine r_aload_n dX0_countRiddle_13 rfl ?_
  refine r_aload_n dX0_countRiddle_14 rfl ?_
  refine r_virtE (c_X7_speaking (o + 13) (o + 29) s13 l29) lk_X0_32 mc_X7_speaking dX0_countRiddle_15 s13.1 (by decide) rfl rfl (Nat.le_of_ble_eq_true rfl) ?_
  refine r_iconst (v := nI 1) dX0_countRiddle_18 (by decide) ?_
  refine r_virtV (c_setUpN (o + 48) (o + 13) (o + 29) 1 9 0 (I1 (o + 13) 3 &&& (I1 (o + 29) 2 ^^^ (-1))) (nI 1) (fun h => lkm 0 (csB c h)) (csB c) false so0 (I1 (o + 29 + 1)) (I1 (o + 29 + 2)) s13 l29 a47.2.1 (by omega) (by omega) (by omega) (by decide) hcl) lk_X0_38 mc_X6_setUp dX0_countRiddle_19 a47.2.1.1 (by decide) rfl rfl (Nat.le_of_ble_eq_true rfl) ?_
  refine r_aload_n dX0_countRiddle_22 rfl ?_
  refine r_getR dX0_countRiddle_23 fl_X0_12 rfl a47.1 (by unfold suP; rw [am_up_n _ _ (by omega)]; exact a47.2.2.2.2.1) ?_
  refine r_iconst (v := nI 2) dX0_countRiddle_26 (by decide) ?_
  refine r_virt (c_seekN (o + 48) (o + 13) (o + 29) 1 9 0 (I1 (o + 13) 3 &&& (I1 (o + 29) 2 ^^^ (-1))) (nI 1) (fun h => lkm 0 (csB c h)) (csB c) false so0 (I1 (o + 29 + 1)) (I1 (o + 29 + 2)) 2 (rsT false (csB c) 9 1 2) s13 l29 a47.2.1 (by omega) (by omega) (by omega) (by decide) hcl (by decide) (by decide) (by decide) (fun k hk hx => by rw [b_and, Bool.and_eq_true] at hx; exact hx.1) hsk) lk_X0_42 mc_X6_seek dX0_countRiddle_27 a47.2.1.1 (by decide) rfl rfl (Nat.le_of_ble_eq_true rfl) (Nat.le_of_eq (Nat.zero_add _)) (Nat.le_of_eq (Nat.zero_add _)) (fun _ _ _ _ _ _ h => nomatch h.1) ?_
  rintro v n2 kd2 I2 J2 P2 ⟨q0, rfl, rfl, hq, hsu, -, -, -, -⟩
  cases q0
  simp only [Option.toList, List.cons_append, List.nil_append]
  rw [show skv (rsT false (csB c) 9 1 2).2.2 (rsT false (csB c) 9 1 2).2.1 = nI 1 from by unfold skv; rw [hrs.1, hrs.2]; rfl]
  have hgd2 : I2 (o + 47) 3 = nI g := by rw [hq.1 (o + 47) (by omega) (by omega)]; exact hgd1
  have hft2 : I2 (o + 47) 4 = I (o + 47) 4 := by rw [hq.1 (o + 47) (by omega) (by omega), hf (o + 47) (by omega)]
  have hX2 : kX kd2 P2 o (o + 3) (o + 13) (o + 23) (o + 29) := kX.bk (n := o + 69) (Nat.le_refl _) (fun _ _ => rfl) (fun a _ h1 _ => hq.2.2.1 a h1) hq.2.2.2 (fun k _ => by rw [hq.2.2.1 (o + 56) (by omega)]) hX0
  have hfin : ∀ F : Nat → Int32, (F 3 = nI (g + 1) ∧ F 4 = (if g = 0 then nm else I (o + 47) 4)) → (cbG n2 kd2 I J1 P1 o g nm) (.inl (some (.int (nI 1)))) n2 kd2 (va_up I2 (o + 47) F) J2 P2 := fun F hF => by
    have e13 : ∀ k, k ≤ 7 → va_up I2 (o + 47) F (o + 13 + k) = I1 (o + 13 + k) := fun k hk => by rw [am_up_n _ _ (by omega)]; exact hq.1 _ (by omega) (by omega)
    have e29 : ∀ k, k ≤ 5 → va_up I2 (o + 47) F (o + 29 + k) = I (o + 29 + k) := fun k hk => by rw [am_up_n _ _ (by omega), hq.1 _ (by omega) (by omega)]; exact hf _ (by omega)
    refine ⟨rfl, rfl, rfl, hX2, fun a ha => ⟨?_, hq.2.1 a (by omega), hq.2.2.1 a (by omega)⟩, ?_, ?_, ?_, ?_⟩
    · rw [am_up_n _ _ (by omega), hq.1 a (by omega) (by omega)]; exact hf a (by omega)
    · unfold bI
      rw [show va_up I2 (o + 47) F (o + 13) = I1 (o + 13) from e13 0 (by decide), e13 3 (by decide)]
      exact ⟨u0, u1.trans h1, u2.trans h2, Or.inr (u3.trans h3), by rw [uf]; exact f0⟩
    · unfold lI0
      rw [show va_up I2 (o + 47) F (o + 29) = I (o + 29) from e29 0 (by decide), e29 1 (by decide), e29 2 (by decide)]
      exact hl
    · rw [am_up_s]; exact hF.1
    · rw [am_up_s]; exact hF.2
  have ka : kd2 (o + 47) = some (0, 0) := a47.1
  by_cases hg0 : g = 0
  · subst hg0
    refine r_istore dX0_countRiddle_30 (by decide) ?_
    refine r_iload dX0_countRiddle_32 rfl ?_
    refine r_iconst (v := nI 1) dX0_countRiddle_34 (by decide) ?_
    refine r_icmp_ne (tgt := 67) dX0_countRiddle_35 (by decide) (fun hz => absurd (show _ from rfl) hz) (fun _ => ?_)
    refine r_aload_n dX0_countRiddle_38 rfl ?_
    refine r_aload_n dX0_countRiddle_39 rfl ?_
    refine r_getI dX0_countRiddle_40 fl_X0_25 rfl ka ?_
    rw [hgd2]
    refine r_if_ne (tgt := 50) dX0_countRiddle_43 (by decide) (fun hz => absurd (show _ from rfl) hz) (fun _ => ?_)
    refine r_iload_n dX0_countRiddle_46 rfl ?_
    refine r_goto (tgt := 54) dX0_countRiddle_47 (by decide) ?_
    refine r_putI dX0_countRiddle_54 fl_X0_29 rfl rfl ka ?_
    refine r_aload_n dX0_countRiddle_57 rfl ?_
    refine r_dup dX0_countRiddle_58 rfl ?_
    refine r_getI dX0_countRiddle_59 fl_X0_25 rfl ka ?_
    rw [show va_up I2 (o + 47) (va_up (I2 (o + 47)) 4 nm) (o + 47) 3 = nI 0 from by rw [am_up_s, am_up_n _ _ (by decide)]; exact hgd2]
    refine r_iconst (v := nI 1) dX0_countRiddle_62 (by decide) ?_
    refine r_iadd dX0_countRiddle_63 ?_
    rw [nI_add]
    refine r_putI dX0_countRiddle_64 fl_X0_25 rfl rfl ka ?_
    rw [am_up_s, am_up_up]
    refine r_iload dX0_countRiddle_67 rfl ?_
    refine r_bipush (v := -2) dX0_countRiddle_69 (by decide) ?_
    refine r_icmp_eq (tgt := 78) dX0_countRiddle_71 (by decide) (fun hz => absurd hz (show ¬ _ from (by decide))) (fun _ => ?_)
    refine r_iconst (v := nI 1) dX0_countRiddle_74 (by decide) ?_
    refine r_goto (tgt := 79) dX0_countRiddle_75 (by decide) ?_
    refine r_zret rfl dX0_countRiddle_79 (by first | exact Or.inl rfl | exact Or.inr rfl | assumption) ?_
    exact hfin _ ⟨by rw [am_up_s], by rw [am_up_n _ _ (by decide), am_up_s]; rfl⟩
  · skip
    refine r_istore dX0_countRiddle_30 (by decide) ?_
    refine r_iload dX0_countRiddle_32 rfl ?_
    refine r_iconst (v := nI 1) dX0_countRiddle_34 (by decide) ?_
    refine r_icmp_ne (tgt := 67) dX0_countRiddle_35 (by decide) (fun hz => absurd (show _ from rfl) hz) (fun _ => ?_)
    refine r_aload_n dX0_countRiddle_38 rfl ?_
    refine r_aload_n dX0_countRiddle_39 rfl ?_
    refine r_getI dX0_countRiddle_40 fl_X0_25 rfl ka ?_
    rw [hgd2]
    refine r_if_ne (tgt := 50) dX0_countRiddle_43 (by decide) (fun _ => ?_) (fun hz => absurd hz (show ¬ _ from (by rw [z_eq (by omega)]; exact hg0)))
    refine r_aload_n dX0_countRiddle_50 rfl ?_
    refine r_getI dX0_countRiddle_51 fl_X0_29 rfl ka ?_
    rw [hft2]
    refine r_putI dX0_countRiddle_54 fl_X0_29 rfl rfl ka ?_
    refine r_aload_n dX0_countRiddle_57 rfl ?_
    refine r_dup dX0_countRiddle_58 rfl ?_
    refine r_getI dX0_countRiddle_59 fl_X0_25 rfl ka ?_
    rw [show va_up I2 (o + 47) (va_up (I2 (o + 47)) 4 (I (o + 47) 4)) (o + 47) 3 = nI g from by rw [am_up_s, am_up_n _ _ (by decide)]; exact hgd2]
    refine r_iconst (v := nI 1) dX0_countRiddle_62 (by decide) ?_
    refine r_iadd dX0_countRiddle_63 ?_
    rw [nI_add]
    refine r_putI dX0_countRiddle_64 fl_X0_25 rfl rfl ka ?_
    rw [am_up_s, am_up_up]
    refine r_iload dX0_countRiddle_67 rfl ?_
    refine r_bipush (v := -2) dX0_countRiddle_69 (by decide) ?_
    refine r_icmp_eq (tgt := 78) dX0_countRiddle_71 (by decide) (fun hz => absurd hz (show ¬ _ from (by decide))) (fun _ => ?_)
    refine r_iconst (v := nI 1) dX0_countRiddle_74 (by decide) ?_
    refine r_goto (tgt := 79) dX0_countRiddle_75 (by decide) ?_
    refine r_zret rfl dX0_countRiddle_79 (by first | exact Or.inl rfl | exact Or.inr rfl | assumption) ?_
    exact hfin _ ⟨by rw [am_up_s], by rw [am_up_n _ _ (by decide), am_up_s, if_neg hg0]⟩

theorem dX0_tryNewRiddles_0 : decode cX0_tryNewRiddles 0 = .ok (.aload_n 1, 1) := by decide +kernel
theorem dX0_tryNewRiddles_1 : decode cX0_tryNewRiddles 1 = .ok (.getfield 77, 3) := by decide +kernel
theorem dX0_tryNewRiddles_4 : decode cX0_tryNewRiddles 4 = .ok (.iconst 1, 1) := by decide +kernel
theorem dX0_tryNewRiddles_5 : decode cX0_tryNewRiddles 5 = .ok (.isub, 1) := by decide +kernel
theorem dX0_tryNewRiddles_6 : decode cX0_tryNewRiddles 6 = .ok (.istore_n 3, 1) := by decide +kernel
theorem dX0_tryNewRiddles_7 : decode cX0_tryNewRiddles 7 = .ok (.aload_n 0, 1) := by decide +kernel
theorem dX0_tryNewRiddles_8 : decode cX0_tryNewRiddles 8 = .ok (.iconst 0, 1) := by decide +kernel
theorem dX0_tryNewRiddles_9 : decode cX0_tryNewRiddles 9 = .ok (.putfield 25, 3) := by decide +kernel
theorem dX0_tryNewRiddles_12 : decode cX0_tryNewRiddles 12 = .ok (.aload_n 0, 1) := by decide +kernel
theorem dX0_tryNewRiddles_13 : decode cX0_tryNewRiddles 13 = .ok (.iconst (-1), 1) := by decide +kernel
theorem dX0_tryNewRiddles_14 : decode cX0_tryNewRiddles 14 = .ok (.putfield 29, 3) := by decide +kernel
theorem dX0_tryNewRiddles_17 : decode cX0_tryNewRiddles 17 = .ok (.iconst 1, 1) := by decide +kernel
theorem dX0_tryNewRiddles_18 : decode cX0_tryNewRiddles 18 = .ok (.istore 4, 2) := by decide +kernel
theorem dX0_tryNewRiddles_20 : decode cX0_tryNewRiddles 20 = .ok (.iconst 1, 1) := by decide +kernel
theorem dX0_tryNewRiddles_21 : decode cX0_tryNewRiddles 21 = .ok (.istore 5, 2) := by decide +kernel
theorem dX0_tryNewRiddles_23 : decode cX0_tryNewRiddles 23 = .ok (.iload 5, 2) := by decide +kernel
theorem dX0_tryNewRiddles_25 : decode cX0_tryNewRiddles 25 = .ok (.aload_n 1, 1) := by decide +kernel
theorem dX0_tryNewRiddles_26 : decode cX0_tryNewRiddles 26 = .ok (.getfield 80, 3) := by decide +kernel
theorem dX0_tryNewRiddles_29 : decode cX0_tryNewRiddles 29 = .ok (.if_icmp .gt 43, 3) := by decide +kernel
theorem dX0_tryNewRiddles_32 : decode cX0_tryNewRiddles 32 = .ok (.iload 4, 2) := by decide +kernel
theorem dX0_tryNewRiddles_34 : decode cX0_tryNewRiddles 34 = .ok (.ifCond .eq 38, 3) := by decide +kernel
theorem dX0_tryNewRiddles_37 : decode cX0_tryNewRiddles 37 = .ok (.aload_n 1, 1) := by decide +kernel
theorem dX0_tryNewRiddles_38 : decode cX0_tryNewRiddles 38 = .ok (.invokevirtual 83, 3) := by decide +kernel
theorem dX0_tryNewRiddles_41 : decode cX0_tryNewRiddles 41 = .ok (.aload_n 1, 1) := by decide +kernel
theorem dX0_tryNewRiddles_42 : decode cX0_tryNewRiddles 42 = .ok (.sipush 10000, 3) := by decide +kernel
theorem dX0_tryNewRiddles_45 : decode cX0_tryNewRiddles 45 = .ok (.iload_n 3, 1) := by decide +kernel
theorem dX0_tryNewRiddles_46 : decode cX0_tryNewRiddles 46 = .ok (.iadd, 1) := by decide +kernel
theorem dX0_tryNewRiddles_47 : decode cX0_tryNewRiddles 47 = .ok (.invokevirtual 86, 3) := by decide +kernel
theorem dX0_tryNewRiddles_50 : decode cX0_tryNewRiddles 50 = .ok (.aload_n 1, 1) := by decide +kernel
theorem dX0_tryNewRiddles_51 : decode cX0_tryNewRiddles 51 = .ok (.iload 5, 2) := by decide +kernel
theorem dX0_tryNewRiddles_53 : decode cX0_tryNewRiddles 53 = .ok (.invokevirtual 86, 3) := by decide +kernel
theorem dX0_tryNewRiddles_56 : decode cX0_tryNewRiddles 56 = .ok (.aload_n 0, 1) := by decide +kernel
theorem dX0_tryNewRiddles_57 : decode cX0_tryNewRiddles 57 = .ok (.aload_n 1, 1) := by decide +kernel
theorem dX0_tryNewRiddles_58 : decode cX0_tryNewRiddles 58 = .ok (.aload_n 2, 1) := by decide +kernel
theorem dX0_tryNewRiddles_59 : decode cX0_tryNewRiddles 59 = .ok (.iload 5, 2) := by decide +kernel
theorem dX0_tryNewRiddles_61 : decode cX0_tryNewRiddles 61 = .ok (.invokevirtual 90, 3) := by decide +kernel
theorem dX0_tryNewRiddles_64 : decode cX0_tryNewRiddles 64 = .ok (.istore 4, 2) := by decide +kernel
theorem dX0_tryNewRiddles_66 : decode cX0_tryNewRiddles 66 = .ok (.iinc 5 1, 3) := by decide +kernel
theorem dX0_tryNewRiddles_69 : decode cX0_tryNewRiddles 69 = .ok (.goto (-46), 3) := by decide +kernel
theorem dX0_tryNewRiddles_72 : decode cX0_tryNewRiddles 72 = .ok (.iconst 0, 1) := by decide +kernel
theorem dX0_tryNewRiddles_73 : decode cX0_tryNewRiddles 73 = .ok (.istore 5, 2) := by decide +kernel
theorem dX0_tryNewRiddles_75 : decode cX0_tryNewRiddles 75 = .ok (.iload 5, 2) := by decide +kernel
theorem dX0_tryNewRiddles_77 : decode cX0_tryNewRiddles 77 = .ok (.iload_n 3, 1) := by decide +kernel
theorem dX0_tryNewRiddles_78 : decode cX0_tryNewRiddles 78 = .ok (.if_icmp .ge 66, 3) := by decide +kernel
theorem dX0_tryNewRiddles_81 : decode cX0_tryNewRiddles 81 = .ok (.iconst 0, 1) := by decide +kernel
theorem dX0_tryNewRiddles_82 : decode cX0_tryNewRiddles 82 = .ok (.istore 6, 2) := by decide +kernel
theorem dX0_tryNewRiddles_84 : decode cX0_tryNewRiddles 84 = .ok (.iload 6, 2) := by decide +kernel
theorem dX0_tryNewRiddles_86 : decode cX0_tryNewRiddles 86 = .ok (.bipush 9, 2) := by decide +kernel
theorem dX0_tryNewRiddles_88 : decode cX0_tryNewRiddles 88 = .ok (.if_icmp .gt 50, 3) := by decide +kernel
theorem dX0_tryNewRiddles_91 : decode cX0_tryNewRiddles 91 = .ok (.iload 4, 2) := by decide +kernel
theorem dX0_tryNewRiddles_93 : decode cX0_tryNewRiddles 93 = .ok (.ifCond .eq 45, 3) := by decide +kernel
theorem dX0_tryNewRiddles_96 : decode cX0_tryNewRiddles 96 = .ok (.aload_n 0, 1) := by decide +kernel
theorem dX0_tryNewRiddles_97 : decode cX0_tryNewRiddles 97 = .ok (.aload_n 1, 1) := by decide +kernel
theorem dX0_tryNewRiddles_98 : decode cX0_tryNewRiddles 98 = .ok (.iload 5, 2) := by decide +kernel
theorem dX0_tryNewRiddles_100 : decode cX0_tryNewRiddles 100 = .ok (.iload 6, 2) := by decide +kernel
theorem dX0_tryNewRiddles_102 : decode cX0_tryNewRiddles 102 = .ok (.invokevirtual 94, 3) := by decide +kernel
theorem dX0_tryNewRiddles_105 : decode cX0_tryNewRiddles 105 = .ok (.aload_n 1, 1) := by decide +kernel
theorem dX0_tryNewRiddles_106 : decode cX0_tryNewRiddles 106 = .ok (.sipush 20004, 3) := by decide +kernel
theorem dX0_tryNewRiddles_109 : decode cX0_tryNewRiddles 109 = .ok (.invokevirtual 86, 3) := by decide +kernel
theorem dX0_tryNewRiddles_112 : decode cX0_tryNewRiddles 112 = .ok (.aload_n 0, 1) := by decide +kernel
theorem dX0_tryNewRiddles_113 : decode cX0_tryNewRiddles 113 = .ok (.aload_n 1, 1) := by decide +kernel
theorem dX0_tryNewRiddles_114 : decode cX0_tryNewRiddles 114 = .ok (.aload_n 2, 1) := by decide +kernel
theorem dX0_tryNewRiddles_115 : decode cX0_tryNewRiddles 115 = .ok (.sipush 1000, 3) := by decide +kernel
theorem dX0_tryNewRiddles_118 : decode cX0_tryNewRiddles 118 = .ok (.bipush 100, 2) := by decide +kernel
theorem dX0_tryNewRiddles_120 : decode cX0_tryNewRiddles 120 = .ok (.iload 5, 2) := by decide +kernel
theorem dX0_tryNewRiddles_122 : decode cX0_tryNewRiddles 122 = .ok (.imul, 1) := by decide +kernel
theorem dX0_tryNewRiddles_123 : decode cX0_tryNewRiddles 123 = .ok (.iadd, 1) := by decide +kernel
theorem dX0_tryNewRiddles_124 : decode cX0_tryNewRiddles 124 = .ok (.iload 6, 2) := by decide +kernel
theorem dX0_tryNewRiddles_126 : decode cX0_tryNewRiddles 126 = .ok (.iadd, 1) := by decide +kernel
theorem dX0_tryNewRiddles_127 : decode cX0_tryNewRiddles 127 = .ok (.invokevirtual 90, 3) := by decide +kernel
theorem dX0_tryNewRiddles_130 : decode cX0_tryNewRiddles 130 = .ok (.istore 4, 2) := by decide +kernel
theorem dX0_tryNewRiddles_132 : decode cX0_tryNewRiddles 132 = .ok (.iinc 6 1, 3) := by decide +kernel
theorem dX0_tryNewRiddles_135 : decode cX0_tryNewRiddles 135 = .ok (.goto (-51), 3) := by decide +kernel
theorem dX0_tryNewRiddles_138 : decode cX0_tryNewRiddles 138 = .ok (.iinc 5 1, 3) := by decide +kernel
theorem dX0_tryNewRiddles_141 : decode cX0_tryNewRiddles 141 = .ok (.goto (-66), 3) := by decide +kernel
theorem dX0_tryNewRiddles_144 : decode cX0_tryNewRiddles 144 = .ok (.iconst 0, 1) := by decide +kernel
theorem dX0_tryNewRiddles_145 : decode cX0_tryNewRiddles 145 = .ok (.istore 5, 2) := by decide +kernel
theorem dX0_tryNewRiddles_147 : decode cX0_tryNewRiddles 147 = .ok (.iload 5, 2) := by decide +kernel
theorem dX0_tryNewRiddles_149 : decode cX0_tryNewRiddles 149 = .ok (.iload_n 3, 1) := by decide +kernel
theorem dX0_tryNewRiddles_150 : decode cX0_tryNewRiddles 150 = .ok (.if_icmp .ge 66, 3) := by decide +kernel
theorem dX0_tryNewRiddles_153 : decode cX0_tryNewRiddles 153 = .ok (.iconst 2, 1) := by decide +kernel
theorem dX0_tryNewRiddles_154 : decode cX0_tryNewRiddles 154 = .ok (.istore 6, 2) := by decide +kernel
theorem dX0_tryNewRiddles_156 : decode cX0_tryNewRiddles 156 = .ok (.iload 6, 2) := by decide +kernel
theorem dX0_tryNewRiddles_158 : decode cX0_tryNewRiddles 158 = .ok (.bipush 9, 2) := by decide +kernel
theorem dX0_tryNewRiddles_160 : decode cX0_tryNewRiddles 160 = .ok (.if_icmp .gt 50, 3) := by decide +kernel
theorem dX0_tryNewRiddles_163 : decode cX0_tryNewRiddles 163 = .ok (.iload 4, 2) := by decide +kernel
theorem dX0_tryNewRiddles_165 : decode cX0_tryNewRiddles 165 = .ok (.ifCond .eq 45, 3) := by decide +kernel
theorem dX0_tryNewRiddles_168 : decode cX0_tryNewRiddles 168 = .ok (.aload_n 0, 1) := by decide +kernel
theorem dX0_tryNewRiddles_169 : decode cX0_tryNewRiddles 169 = .ok (.aload_n 1, 1) := by decide +kernel
theorem dX0_tryNewRiddles_170 : decode cX0_tryNewRiddles 170 = .ok (.iload 5, 2) := by decide +kernel
theorem dX0_tryNewRiddles_172 : decode cX0_tryNewRiddles 172 = .ok (.iload 6, 2) := by decide +kernel
theorem dX0_tryNewRiddles_174 : decode cX0_tryNewRiddles 174 = .ok (.invokevirtual 94, 3) := by decide +kernel
theorem dX0_tryNewRiddles_177 : decode cX0_tryNewRiddles 177 = .ok (.aload_n 1, 1) := by decide +kernel
theorem dX0_tryNewRiddles_178 : decode cX0_tryNewRiddles 178 = .ok (.sipush 20006, 3) := by decide +kernel
theorem dX0_tryNewRiddles_181 : decode cX0_tryNewRiddles 181 = .ok (.invokevirtual 86, 3) := by decide +kernel
theorem dX0_tryNewRiddles_184 : decode cX0_tryNewRiddles 184 = .ok (.aload_n 0, 1) := by decide +kernel
theorem dX0_tryNewRiddles_185 : decode cX0_tryNewRiddles 185 = .ok (.aload_n 1, 1) := by decide +kernel
theorem dX0_tryNewRiddles_186 : decode cX0_tryNewRiddles 186 = .ok (.aload_n 2, 1) := by decide +kernel
theorem dX0_tryNewRiddles_187 : decode cX0_tryNewRiddles 187 = .ok (.sipush 2000, 3) := by decide +kernel
theorem dX0_tryNewRiddles_190 : decode cX0_tryNewRiddles 190 = .ok (.bipush 100, 2) := by decide +kernel
theorem dX0_tryNewRiddles_192 : decode cX0_tryNewRiddles 192 = .ok (.iload 5, 2) := by decide +kernel
theorem dX0_tryNewRiddles_194 : decode cX0_tryNewRiddles 194 = .ok (.imul, 1) := by decide +kernel
theorem dX0_tryNewRiddles_195 : decode cX0_tryNewRiddles 195 = .ok (.iadd, 1) := by decide +kernel
theorem dX0_tryNewRiddles_196 : decode cX0_tryNewRiddles 196 = .ok (.iload 6, 2) := by decide +kernel
theorem dX0_tryNewRiddles_198 : decode cX0_tryNewRiddles 198 = .ok (.iadd, 1) := by decide +kernel
theorem dX0_tryNewRiddles_199 : decode cX0_tryNewRiddles 199 = .ok (.invokevirtual 90, 3) := by decide +kernel
theorem dX0_tryNewRiddles_202 : decode cX0_tryNewRiddles 202 = .ok (.istore 4, 2) := by decide +kernel
theorem dX0_tryNewRiddles_204 : decode cX0_tryNewRiddles 204 = .ok (.iinc 6 1, 3) := by decide +kernel
theorem dX0_tryNewRiddles_207 : decode cX0_tryNewRiddles 207 = .ok (.goto (-51), 3) := by decide +kernel
theorem dX0_tryNewRiddles_210 : decode cX0_tryNewRiddles 210 = .ok (.iinc 5 1, 3) := by decide +kernel
theorem dX0_tryNewRiddles_213 : decode cX0_tryNewRiddles 213 = .ok (.goto (-66), 3) := by decide +kernel
theorem dX0_tryNewRiddles_216 : decode cX0_tryNewRiddles 216 = .ok (.iload 4, 2) := by decide +kernel
theorem dX0_tryNewRiddles_218 : decode cX0_tryNewRiddles 218 = .ok (.ireturn, 1) := by decide +kernel

def tnG (n : Nat) (kd : mK) (I : mI) (J : mJ) (P : mP) (o : Nat) : am_Post := fun z n' kd' I' J' P' => z = .inl (some (.int (nI 1))) ∧ n' = n ∧ kd' = kd ∧ kX kd P' o (o + 3) (o + 13) (o + 23) (o + 29) ∧ (∀ a, o + 69 ≤ a → I' a = I a ∧ J' a = J a ∧ P' a = P a) ∧ I' (o + 47) 3 = nI 9 ∧ I' (o + 47) 4 = nI 1
set_option maxHeartbeats 4000000 in
set_option maxRecDepth 100000 in
theorem tn_loop (o : Nat) {n : Nat} {kd : mK} : ∀ (cnt c : Nat) (I : mI) (J : mJ) (P : mP), c + cnt = 10 → 1 ≤ c → kX kd P o (o + 3) (o + 13) (o + 23) (o + 29) → bI I (o + 13) → lI0 I (o + 29) → I (o + 47) 3 = nI (c - 1) → I (o + 47) 4 = (if c = 1 then -1 else nI 1) → Ru yX0_tryNewRiddles.cls cX0_tryNewRiddles 7 (some .boolean) yX0_tryNewRiddles.name 9 (tnG n kd I J P o) 0 0 23 [some (.ref (o + 47)), some (.ref (o + 13)), some (.ref (o + 29)), some (.int (nI 0)), some (.int (nI 1)), some (.int (nI c)), none] [] n kd I J P := by
  intro cnt
  induction cnt with
  | zero =>
    intro c I J P hc hc1 hX hb hl hg hf
    have ec : c = 10 := by omega
    subst ec
    have s13 := hX.2.1.2
    have b1 := hb.2.1
    refine r_iload dX0_tryNewRiddles_23 rfl ?_
    refine r_aload_n dX0_tryNewRiddles_25 rfl ?_
    refine r_getI dX0_tryNewRiddles_26 fl_X0_80 rfl s13.1 ?_
    rw [b1]
    refine r_icmp_gt (tgt := 72) dX0_tryNewRiddles_29 (by decide) (fun _ => ?_) (fun hz => absurd (show _ from (by decide)) hz)
    refine r_iconst (v := nI 0) dX0_tryNewRiddles_72 (by decide) ?_
    refine r_istore dX0_tryNewRiddles_73 (by decide) ?_
    refine r_iload dX0_tryNewRiddles_75 rfl ?_
    refine r_iload_n dX0_tryNewRiddles_77 rfl ?_
    refine r_icmp_ge (tgt := 144) dX0_tryNewRiddles_78 (by decide) (fun _ => ?_) (fun hz => absurd (show _ from (by decide)) hz)
    refine r_iconst (v := nI 0) dX0_tryNewRiddles_144 (by decide) ?_
    refine r_istore dX0_tryNewRiddles_145 (by decide) ?_
    refine r_iload dX0_tryNewRiddles_147 rfl ?_
    refine r_iload_n dX0_tryNewRiddles_149 rfl ?_
    refine r_icmp_ge (tgt := 216) dX0_tryNewRiddles_150 (by decide) (fun _ => ?_) (fun hz => absurd (show _ from (by decide)) hz)
    refine r_iload dX0_tryNewRiddles_216 rfl ?_
    refine r_zret rfl dX0_tryNewRiddles_218 (by first | exact Or.inl rfl | exact Or.inr rfl | assumption) ?_
    exact ⟨rfl, rfl, rfl, hX, fun a ha => ⟨rfl, rfl, rfl⟩, hg, hf⟩
  | succ cnt ih =>
    intro c I J P hc hc1 hX hb hl hg hf
    have s13 := hX.2.1.2
    have a47 := hX.2.2.2.1.2.1
    obtain ⟨b0, b1, b2, b3, bf⟩ := hb
    refine r_iload dX0_tryNewRiddles_23 rfl ?_
    refine r_aload_n dX0_tryNewRiddles_25 rfl ?_
    refine r_getI dX0_tryNewRiddles_26 fl_X0_80 rfl s13.1 ?_
    rw [b1]
    refine r_icmp_gt (tgt := 72) dX0_tryNewRiddles_29 (by decide) (fun hz => absurd hz (show ¬ _ from (by rw [nI_ltI (by omega) (by omega)]; omega))) (fun _ => ?_)
    refine r_iload dX0_tryNewRiddles_32 rfl ?_
    refine r_if_eq (tgt := 72) dX0_tryNewRiddles_34 (by decide) (fun hz => absurd hz (show ¬ _ from (by decide))) (fun _ => ?_)
    refine r_aload_n dX0_tryNewRiddles_37 rfl ?_
    refine r_virt (c_begin1 (o + 13) s13 b0 b3 bf) lk_X0_83 mc_X7_beginRiddle dX0_tryNewRiddles_38 s13.1 (by decide) rfl rfl (Nat.le_of_ble_eq_true rfl) (Nat.le_of_eq (Nat.zero_add _)) (Nat.le_of_eq (Nat.zero_add _)) (fun _ _ _ _ _ _ h => nomatch h.1) ?_
    rintro v n1 kd1 I1 J1 P1 ⟨q0, rfl, rfl, rfl, rfl, hf1, u0, u1, u2, u3, u6, uf, ul⟩
    cases q0
    simp only [Option.toList, List.nil_append]
    refine r_aload_n dX0_tryNewRiddles_41 rfl ?_
    refine r_sipush (v := nI 10000) dX0_tryNewRiddles_42 (by decide) ?_
    refine r_iload_n dX0_tryNewRiddles_45 rfl ?_
    refine r_iadd dX0_tryNewRiddles_46 ?_
    rw [nI_add]
    refine r_virt (c_code1 (o + 13) 0 (nI (10000 + 0)) s13 u0 u6 (by decide)) lk_X0_86 mc_X7_addCode dX0_tryNewRiddles_47 s13.1 (by decide) rfl rfl (Nat.le_of_ble_eq_true rfl) (Nat.le_of_eq (Nat.zero_add _)) (Nat.le_of_eq (Nat.zero_add _)) (fun _ _ _ _ _ _ h => nomatch h.1) ?_
    rintro v n1 kd2 I2 J2 P2 ⟨q0, rfl, rfl, rfl, rfl, hf2, v0, v1, v2, v3, v6, vf, vt, vc, vl⟩
    cases q0
    simp only [Option.toList, List.nil_append]
    rw [if_pos (by decide), ul] at vl
    refine r_aload_n dX0_tryNewRiddles_50 rfl ?_
    refine r_iload dX0_tryNewRiddles_51 rfl ?_
    refine r_virt (c_code1 (o + 13) (0 + 1) (nI c) s13 v0 v6 (by decide)) lk_X0_86 mc_X7_addCode dX0_tryNewRiddles_53 s13.1 (by decide) rfl rfl (Nat.le_of_ble_eq_true rfl) (Nat.le_of_eq (Nat.zero_add _)) (Nat.le_of_eq (Nat.zero_add _)) (fun _ _ _ _ _ _ h => nomatch h.1) ?_
    rintro v n1 kd3 I3 J3 P3 ⟨q0, rfl, rfl, rfl, rfl, hf3, w0, w1, w2, w3, w6, wf, wt, wc, wl⟩
    cases q0
    simp only [Option.toList, List.nil_append]
    rw [if_neg (fun q => absurd ((nI_leI (by omega) (by omega)).mp q.1) (by omega)), vl] at wl
    have hl3 : lI0 I3 (o + 29) := by
      have e : ∀ k, k ≤ 5 → I3 (o + 29 + k) = I (o + 29 + k) := fun k hk => by rw [hf3 _ (by omega), hf2 _ (by omega)]; exact hf1 _ (by omega)
      unfold lI0
      rw [show I3 (o + 29) = I (o + 29) from e 0 (by decide), e 1 (by decide), e 2 (by decide)]
      exact hl
    have e47 : I3 (o + 47) = I (o + 47) := by rw [hf3 _ (by omega), hf2 _ (by omega)]; exact hf1 _ (by omega)
    have e69 : ∀ a, o + 69 ≤ a → I3 a = I a := fun a ha => by rw [hf3 _ (by omega), hf2 _ (by omega)]; exact hf1 _ (by omega)
    have hcr := c_count1 (n := n1) (J := J3) o c (c - 1) (nI c) hX (by omega) (by omega) (by omega) w0 ((w1.trans v1).trans (u1.trans b1)) ((w2.trans v2).trans (u2.trans b2)) ((w3.trans v3).trans u3) w6 (by rw [wf, vf]; exact uf) (by rw [wl]; decide) (by rw [wc, am_up_n _ _ (by decide), vc, am_up_s]) (by rw [wc, am_up_s]) hl3 (by rw [e47]; exact hg)
    refine r_aload_n dX0_tryNewRiddles_56 rfl ?_
    refine r_aload_n dX0_tryNewRiddles_57 rfl ?_
    refine r_aload_n dX0_tryNewRiddles_58 rfl ?_
    refine r_iload dX0_tryNewRiddles_59 rfl ?_
    refine r_virt (hcr) lk_X0_90 mc_X0_countRiddle dX0_tryNewRiddles_61 a47.1 (by decide) rfl rfl (Nat.le_of_ble_eq_true rfl) (Nat.le_of_eq (Nat.zero_add _)) (Nat.le_of_eq (Nat.zero_add _)) (fun _ _ _ _ _ _ h => nomatch h.1) ?_
    rintro v n4 kd4 I4 J4 P4 ⟨q0, rfl, rfl, hX4, hfr4, hb4, hl4, hg4, hf4⟩
    cases q0
    simp only [Option.toList, List.cons_append, List.nil_append]
    refine r_istore dX0_tryNewRiddles_64 (by decide) ?_
    refine r_iinc (v := nI (c + 1)) dX0_tryNewRiddles_66 rfl (nI_inc c) ?_
    refine r_goto (tgt := 23) dX0_tryNewRiddles_69 (by decide) ?_
    refine RuZ.mono (ih (c + 1) I4 J4 P4 (by omega) (by omega) hX4 hb4 hl4 (by rw [hg4, show c - 1 + 1 = c + 1 - 1 by omega]) (by
      rw [hf4, e47, hf, if_neg (show ¬ c + 1 = 1 by omega)]
      by_cases q : c = 1
      · subst q; rfl
      · rw [if_neg (by omega), if_neg q])) (fun z n5 kd5 I5 J5 P5 hx => ?_)
    obtain ⟨q0, rfl, rfl, hX5, hfr5, hg5, hf5⟩ := hx
    exact ⟨q0, rfl, rfl, hX5, fun a ha => ⟨(hfr5 a ha).1.trans ((hfr4 a ha).1.trans (e69 a ha)), (hfr5 a ha).2.1.trans (hfr4 a ha).2.1, (hfr5 a ha).2.2.trans (hfr4 a ha).2.2⟩, hg5, hf5⟩

set_option maxHeartbeats 4000000 in
set_option maxRecDepth 100000 in
theorem c_tryNew (o : Nat) {n : Nat} {kd : mK} {I : mI} {J : mJ} {P : mP} (hX : kX kd P o (o + 3) (o + 13) (o + 23) (o + 29)) (hb : bI I (o + 13)) (hl : lI0 I (o + 29)) : Ct yX0_tryNewRiddles cX0_tryNewRiddles 7 (some .boolean) 9 0 0 [.ref (o + 47), .ref (o + 13), .ref (o + 29)] n kd I J P (tnG n kd I J P o) := by
  have a47 := hX.2.2.2.1.2.1
  have s13 := hX.2.1.2
  refine ct_of 4 (by decide +kernel) (Nat.le_of_ble_eq_true rfl) rfl ?_
  refine r_aload_n dX0_tryNewRiddles_0 rfl ?_
  refine r_getI dX0_tryNewRiddles_1 fl_X0_77 rfl s13.1 ?_
  rw [hb.1]
  refine r_iconst (v := nI 1) dX0_tryNewRiddles_4 (by decide) ?_
  refine r_isub dX0_tryNewRiddles_5 ?_
  rw [show nI 1 - nI 1 = nI 0 from by decide]
  refine r_istore_n dX0_tryNewRiddles_6 (by decide) ?_
  refine r_aload_n dX0_tryNewRiddles_7 rfl ?_
  refine r_iconst (v := nI 0) dX0_tryNewRiddles_8 (by decide) ?_
  refine r_putI dX0_tryNewRiddles_9 fl_X0_25 rfl rfl a47.1 ?_
  refine r_aload_n dX0_tryNewRiddles_12 rfl ?_
  refine r_iconst (v := (-1)) dX0_tryNewRiddles_13 (by decide) ?_
  refine r_putI dX0_tryNewRiddles_14 fl_X0_29 rfl rfl a47.1 ?_
  rw [am_up_s, am_up_up]
  refine r_iconst (v := nI 1) dX0_tryNewRiddles_17 (by decide) ?_
  refine r_istore dX0_tryNewRiddles_18 (by decide) ?_
  refine r_iconst (v := nI 1) dX0_tryNewRiddles_20 (by decide) ?_
  refine r_istore dX0_tryNewRiddles_21 (by decide) ?_
  have e : ∀ a, a ≠ o + 47 → va_up I (o + 47) (va_up (va_up (I (o + 47)) 3 (nI 0)) 4 (-1)) a = I a := fun a ha => am_up_n _ _ ha
  refine RuZ.mono (tn_loop o 9 1 _ J P (by omega) (by omega) hX (by unfold bI; rw [e (o + 13) (by omega), e (o + 13 + 3) (by omega)]; exact hb) (by unfold lI0; rw [e (o + 29) (by omega), e (o + 29 + 1) (by omega), e (o + 29 + 2) (by omega)]; exact hl) (by rw [am_up_s, am_up_n _ _ (by decide), am_up_s]) (by rw [am_up_s, am_up_s]; rfl)) (fun z n5 kd5 I5 J5 P5 hx => ?_)
  obtain ⟨q0, rfl, rfl, hX5, hfr5, hg5, hf5⟩ := hx
  exact ⟨q0, rfl, rfl, hX5, fun a ha => ⟨(hfr5 a ha).1.trans (e a (by omega)), (hfr5 a ha).2.1, (hfr5 a ha).2.2⟩, hg5, hf5⟩

theorem dX7_copy_0 : decode cX7_copy 0 = .ok (.aload_n 0, 1) := by decide +kernel
theorem dX7_copy_1 : decode cX7_copy 1 = .ok (.aload_n 1, 1) := by decide +kernel
theorem dX7_copy_2 : decode cX7_copy 2 = .ok (.getfield 9, 3) := by decide +kernel
theorem dX7_copy_5 : decode cX7_copy 5 = .ok (.putfield 9, 3) := by decide +kernel
theorem dX7_copy_8 : decode cX7_copy 8 = .ok (.aload_n 0, 1) := by decide +kernel
theorem dX7_copy_9 : decode cX7_copy 9 = .ok (.aload_n 1, 1) := by decide +kernel
theorem dX7_copy_10 : decode cX7_copy 10 = .ok (.getfield 15, 3) := by decide +kernel
theorem dX7_copy_13 : decode cX7_copy 13 = .ok (.putfield 15, 3) := by decide +kernel
theorem dX7_copy_16 : decode cX7_copy 16 = .ok (.aload_n 0, 1) := by decide +kernel
theorem dX7_copy_17 : decode cX7_copy 17 = .ok (.aload_n 1, 1) := by decide +kernel
theorem dX7_copy_18 : decode cX7_copy 18 = .ok (.getfield 18, 3) := by decide +kernel
theorem dX7_copy_21 : decode cX7_copy 21 = .ok (.putfield 18, 3) := by decide +kernel
theorem dX7_copy_24 : decode cX7_copy 24 = .ok (.aload_n 0, 1) := by decide +kernel
theorem dX7_copy_25 : decode cX7_copy 25 = .ok (.aload_n 1, 1) := by decide +kernel
theorem dX7_copy_26 : decode cX7_copy 26 = .ok (.getfield 22, 3) := by decide +kernel
theorem dX7_copy_29 : decode cX7_copy 29 = .ok (.putfield 22, 3) := by decide +kernel
theorem dX7_copy_32 : decode cX7_copy 32 = .ok (.aload_n 0, 1) := by decide +kernel
theorem dX7_copy_33 : decode cX7_copy 33 = .ok (.aload_n 1, 1) := by decide +kernel
theorem dX7_copy_34 : decode cX7_copy 34 = .ok (.getfield 32, 3) := by decide +kernel
theorem dX7_copy_37 : decode cX7_copy 37 = .ok (.putfield 32, 3) := by decide +kernel
theorem dX7_copy_40 : decode cX7_copy 40 = .ok (.aload_n 1, 1) := by decide +kernel
theorem dX7_copy_41 : decode cX7_copy 41 = .ok (.getfield 29, 3) := by decide +kernel
theorem dX7_copy_44 : decode cX7_copy 44 = .ok (.iconst 0, 1) := by decide +kernel
theorem dX7_copy_45 : decode cX7_copy 45 = .ok (.aload_n 0, 1) := by decide +kernel
theorem dX7_copy_46 : decode cX7_copy 46 = .ok (.getfield 29, 3) := by decide +kernel
theorem dX7_copy_49 : decode cX7_copy 49 = .ok (.iconst 0, 1) := by decide +kernel
theorem dX7_copy_50 : decode cX7_copy 50 = .ok (.aload_n 0, 1) := by decide +kernel
theorem dX7_copy_51 : decode cX7_copy 51 = .ok (.getfield 32, 3) := by decide +kernel
theorem dX7_copy_54 : decode cX7_copy 54 = .ok (.invokestatic 60, 3) := by decide +kernel
theorem dX7_copy_57 : decode cX7_copy 57 = .ok (.aload_n 1, 1) := by decide +kernel
theorem dX7_copy_58 : decode cX7_copy 58 = .ok (.getfield 25, 3) := by decide +kernel
theorem dX7_copy_61 : decode cX7_copy 61 = .ok (.iconst 0, 1) := by decide +kernel
theorem dX7_copy_62 : decode cX7_copy 62 = .ok (.aload_n 0, 1) := by decide +kernel
theorem dX7_copy_63 : decode cX7_copy 63 = .ok (.getfield 25, 3) := by decide +kernel
theorem dX7_copy_66 : decode cX7_copy 66 = .ok (.iconst 0, 1) := by decide +kernel
theorem dX7_copy_67 : decode cX7_copy 67 = .ok (.bipush 8, 2) := by decide +kernel
theorem dX7_copy_69 : decode cX7_copy 69 = .ok (.invokestatic 60, 3) := by decide +kernel
theorem dX7_copy_72 : decode cX7_copy 72 = .ok (.aload_n 1, 1) := by decide +kernel
theorem dX7_copy_73 : decode cX7_copy 73 = .ok (.getfield 35, 3) := by decide +kernel
theorem dX7_copy_76 : decode cX7_copy 76 = .ok (.iconst 0, 1) := by decide +kernel
theorem dX7_copy_77 : decode cX7_copy 77 = .ok (.aload_n 0, 1) := by decide +kernel
theorem dX7_copy_78 : decode cX7_copy 78 = .ok (.getfield 35, 3) := by decide +kernel
theorem dX7_copy_81 : decode cX7_copy 81 = .ok (.iconst 0, 1) := by decide +kernel
theorem dX7_copy_82 : decode cX7_copy 82 = .ok (.bipush 8, 2) := by decide +kernel
theorem dX7_copy_84 : decode cX7_copy 84 = .ok (.invokestatic 60, 3) := by decide +kernel
theorem dX7_copy_87 : decode cX7_copy 87 = .ok (.aload_n 1, 1) := by decide +kernel
theorem dX7_copy_88 : decode cX7_copy 88 = .ok (.getfield 38, 3) := by decide +kernel
theorem dX7_copy_91 : decode cX7_copy 91 = .ok (.iconst 0, 1) := by decide +kernel
theorem dX7_copy_92 : decode cX7_copy 92 = .ok (.aload_n 0, 1) := by decide +kernel
theorem dX7_copy_93 : decode cX7_copy 93 = .ok (.getfield 38, 3) := by decide +kernel
theorem dX7_copy_96 : decode cX7_copy 96 = .ok (.iconst 0, 1) := by decide +kernel
theorem dX7_copy_97 : decode cX7_copy 97 = .ok (.bipush 8, 2) := by decide +kernel
theorem dX7_copy_99 : decode cX7_copy 99 = .ok (.invokestatic 60, 3) := by decide +kernel
theorem dX7_copy_102 : decode cX7_copy 102 = .ok (.return_, 1) := by decide +kernel

set_option maxHeartbeats 4000000 in
set_option maxRecDepth 100000 in
theorem c_copy0 (a c : Nat) {n : Nat} {kd : mK} {I : mI} {J : mJ} {P : mP} (hA : kS kd P a) (hC : kS kd P c) (hac : a + 9 < c ∨ c + 9 < a) (h0 : I c 0 = nI 0) (h1 : I c 1 = nI 9) (h2 : I c 2 = nI 0) (h3 : I c 3 = nI 0) (h6 : I c 6 = nI 0) : Ct yX7_copy cX7_copy 2 none 2 0 0 [.ref a, .ref c] n kd I J P (fun z n' kd' I' J' P' => z = .inl none ∧ n' = n ∧ kd' = kd ∧ J' = J ∧ P' = P ∧ (∀ x, (x < a ∨ a + 4 < x) → I' x = I x) ∧ I' a 0 = nI 0 ∧ I' a 1 = nI 9 ∧ I' a 2 = nI 0 ∧ I' a 3 = nI 0 ∧ I' a 6 = nI 0) := by
  obtain ⟨a0, a1, a2, a3, a4, a5, a6, a7, a8, a9, ap4, ap5, ap7, ap8, ap9, ap11, ap12, ap13, ap14⟩ := hA
  obtain ⟨c0, c1, c2, c3, c4, c5, c6, c7, c8, c9, cp4, cp5, cp7, cp8, cp9, cp11, cp12, cp13, cp14⟩ := hC
  refine ct_of 0 (by decide +kernel) (Nat.le_of_ble_eq_true rfl) rfl ?_
  refine r_aload_n dX7_copy_0 rfl ?_
  refine r_aload_n dX7_copy_1 rfl ?_
  refine r_getI dX7_copy_2 fl_X7_9 rfl c0 ?_
  refine r_putI dX7_copy_5 fl_X7_9 rfl rfl a0 ?_
  refine r_aload_n dX7_copy_8 rfl ?_
  refine r_aload_n dX7_copy_9 rfl ?_
  refine r_getI dX7_copy_10 fl_X7_15 rfl c0 ?_
  refine r_putI dX7_copy_13 fl_X7_15 rfl rfl a0 ?_
  refine r_aload_n dX7_copy_16 rfl ?_
  refine r_aload_n dX7_copy_17 rfl ?_
  refine r_getI dX7_copy_18 fl_X7_18 rfl c0 ?_
  rw [am_up_n _ _ (by omega), am_up_n _ _ (by omega), h2]
  refine r_putZ dX7_copy_21 fl_X7_18 rfl rfl (Or.inl rfl) a0 ?_
  refine r_aload_n dX7_copy_24 rfl ?_
  refine r_aload_n dX7_copy_25 rfl ?_
  refine r_getI dX7_copy_26 fl_X7_22 rfl c0 ?_
  refine r_putI dX7_copy_29 fl_X7_22 rfl rfl a0 ?_
  refine r_aload_n dX7_copy_32 rfl ?_
  refine r_aload_n dX7_copy_33 rfl ?_
  refine r_getI dX7_copy_34 fl_X7_32 rfl c0 ?_
  refine r_putI dX7_copy_37 fl_X7_32 rfl rfl a0 ?_
  refine r_aload_n dX7_copy_40 rfl ?_
  refine r_getR dX7_copy_41 fl_X7_29 rfl c0 cp5 ?_
  refine r_iconst (v := nI 0) dX7_copy_44 (by decide) ?_
  refine r_aload_n dX7_copy_45 rfl ?_
  refine r_getR dX7_copy_46 fl_X7_29 rfl a0 ap5 ?_
  refine r_iconst (v := nI 0) dX7_copy_49 (by decide) ?_
  refine r_aload_n dX7_copy_50 rfl ?_
  refine r_getI dX7_copy_51 fl_X7_32 rfl a0 ?_
  rw [am_up_s, am_up_s, am_up_n _ _ (by omega), am_up_n _ _ (by omega), am_up_n _ _ (by omega), am_up_n _ _ (by omega), h6]
  refine r_copy (Or.inl rfl) dX7_copy_54 ac_X7 c2 a2 (by decide) (by decide) (by decide) (by decide) (by decide) (fun q => nomatch q) (by decide) (Nat.le_of_ble_eq_true rfl) ?_
  refine r_aload_n dX7_copy_57 rfl ?_
  refine r_getR dX7_copy_58 fl_X7_25 rfl c0 cp4 ?_
  refine r_iconst (v := nI 0) dX7_copy_61 (by decide) ?_
  refine r_aload_n dX7_copy_62 rfl ?_
  refine r_getR dX7_copy_63 fl_X7_25 rfl a0 ap4 ?_
  refine r_iconst (v := nI 0) dX7_copy_66 (by decide) ?_
  refine r_bipush (v := nI 8) dX7_copy_67 (by decide) ?_
  refine r_copy (Or.inl rfl) dX7_copy_69 ac_X7 c1 a1 (by decide) (by decide) (by decide) (by decide) (by decide) (fun q => nomatch q) (by decide) (Nat.le_of_ble_eq_true rfl) ?_
  refine r_aload_n dX7_copy_72 rfl ?_
  refine r_getR dX7_copy_73 fl_X7_35 rfl c0 cp7 ?_
  refine r_iconst (v := nI 0) dX7_copy_76 (by decide) ?_
  refine r_aload_n dX7_copy_77 rfl ?_
  refine r_getR dX7_copy_78 fl_X7_35 rfl a0 ap7 ?_
  refine r_iconst (v := nI 0) dX7_copy_81 (by decide) ?_
  refine r_bipush (v := nI 8) dX7_copy_82 (by decide) ?_
  refine r_copy (Or.inl rfl) dX7_copy_84 ac_X7 c3 a3 (by decide) (by decide) (by decide) (by decide) (by decide) (fun q => nomatch q) (by decide) (Nat.le_of_ble_eq_true rfl) ?_
  refine r_aload_n dX7_copy_87 rfl ?_
  refine r_getR dX7_copy_88 fl_X7_38 rfl c0 cp8 ?_
  refine r_iconst (v := nI 0) dX7_copy_91 (by decide) ?_
  refine r_aload_n dX7_copy_92 rfl ?_
  refine r_getR dX7_copy_93 fl_X7_38 rfl a0 ap8 ?_
  refine r_iconst (v := nI 0) dX7_copy_96 (by decide) ?_
  refine r_bipush (v := nI 8) dX7_copy_97 (by decide) ?_
  refine r_copy (Or.inl rfl) dX7_copy_99 ac_X7 c4 a4 (by decide) (by decide) (by decide) (by decide) (by decide) (fun q => nomatch q) (by decide) (Nat.le_of_ble_eq_true rfl) ?_
  refine r_vret rfl dX7_copy_102 ?_
  refine ⟨rfl, rfl, rfl, rfl, rfl, fun x hx => ?_, ?_, ?_, ?_, ?_, ?_⟩
  · rw [am_up_n _ _ (by omega), am_up_n _ _ (by omega), am_up_n _ _ (by omega), am_up_n _ _ (by omega), am_up_n _ _ (by omega), am_up_n _ _ (by omega), am_up_n _ _ (by omega), am_up_n _ _ (by omega), am_up_n _ _ (by omega)]
  all_goals simp (disch := omega) only [am_up_s, am_up_n]
  all_goals assumption

theorem dX9_build_0 : decode cX9_build 0 = .ok (.aload_n 0, 1) := by decide +kernel
theorem dX9_build_1 : decode cX9_build 1 = .ok (.iload_n 1, 1) := by decide +kernel
theorem dX9_build_2 : decode cX9_build 2 = .ok (.iconst 2, 1) := by decide +kernel
theorem dX9_build_3 : decode cX9_build 3 = .ok (.invokevirtual 162, 3) := by decide +kernel
theorem dX9_build_6 : decode cX9_build 6 = .ok (.aload_n 0, 1) := by decide +kernel
theorem dX9_build_7 : decode cX9_build 7 = .ok (.getfield 27, 3) := by decide +kernel
theorem dX9_build_10 : decode cX9_build 10 = .ok (.getfield 124, 3) := by decide +kernel
theorem dX9_build_13 : decode cX9_build 13 = .ok (.bipush 8, 2) := by decide +kernel
theorem dX9_build_15 : decode cX9_build 15 = .ok (.if_icmp .lt 11, 3) := by decide +kernel
theorem dX9_build_18 : decode cX9_build 18 = .ok (.new 110, 3) := by decide +kernel
theorem dX9_build_21 : decode cX9_build 21 = .ok (.dup, 1) := by decide +kernel
theorem dX9_build_22 : decode cX9_build 22 = .ok (.invokespecial 112, 3) := by decide +kernel
theorem dX9_build_25 : decode cX9_build 25 = .ok (.athrow, 1) := by decide +kernel
theorem dX9_build_26 : decode cX9_build 26 = .ok (.aload_n 0, 1) := by decide +kernel
theorem dX9_build_27 : decode cX9_build 27 = .ok (.getfield 31, 3) := by decide +kernel
theorem dX9_build_30 : decode cX9_build 30 = .ok (.aload_n 0, 1) := by decide +kernel
theorem dX9_build_31 : decode cX9_build 31 = .ok (.getfield 27, 3) := by decide +kernel
theorem dX9_build_34 : decode cX9_build 34 = .ok (.invokevirtual 284, 3) := by decide +kernel
theorem dX9_build_37 : decode cX9_build 37 = .ok (.aload_n 0, 1) := by decide +kernel
theorem dX9_build_38 : decode cX9_build 38 = .ok (.getfield 31, 3) := by decide +kernel
theorem dX9_build_41 : decode cX9_build 41 = .ok (.invokevirtual 287, 3) := by decide +kernel
theorem dX9_build_44 : decode cX9_build 44 = .ok (.aload_n 0, 1) := by decide +kernel
theorem dX9_build_45 : decode cX9_build 45 = .ok (.getfield 41, 3) := by decide +kernel
theorem dX9_build_48 : decode cX9_build 48 = .ok (.aload_n 0, 1) := by decide +kernel
theorem dX9_build_49 : decode cX9_build 49 = .ok (.getfield 37, 3) := by decide +kernel
theorem dX9_build_52 : decode cX9_build 52 = .ok (.invokevirtual 264, 3) := by decide +kernel
theorem dX9_build_55 : decode cX9_build 55 = .ok (.aload_n 0, 1) := by decide +kernel
theorem dX9_build_56 : decode cX9_build 56 = .ok (.getfield 64, 3) := by decide +kernel
theorem dX9_build_59 : decode cX9_build 59 = .ok (.aload_n 0, 1) := by decide +kernel
theorem dX9_build_60 : decode cX9_build 60 = .ok (.getfield 31, 3) := by decide +kernel
theorem dX9_build_63 : decode cX9_build 63 = .ok (.aload_n 0, 1) := by decide +kernel
theorem dX9_build_64 : decode cX9_build 64 = .ok (.getfield 41, 3) := by decide +kernel
theorem dX9_build_67 : decode cX9_build 67 = .ok (.invokevirtual 290, 3) := by decide +kernel
theorem dX9_build_70 : decode cX9_build 70 = .ok (.ifCond .ne 6, 3) := by decide +kernel
theorem dX9_build_73 : decode cX9_build 73 = .ok (.bipush (-2), 2) := by decide +kernel
theorem dX9_build_75 : decode cX9_build 75 = .ok (.ireturn, 1) := by decide +kernel
theorem dX9_build_76 : decode cX9_build 76 = .ok (.iload_n 1, 1) := by decide +kernel
theorem dX9_build_77 : decode cX9_build 77 = .ok (.ifCond .ne 13, 3) := by decide +kernel
theorem dX9_build_80 : decode cX9_build 80 = .ok (.aload_n 0, 1) := by decide +kernel
theorem dX9_build_81 : decode cX9_build 81 = .ok (.getfield 64, 3) := by decide +kernel
theorem dX9_build_84 : decode cX9_build 84 = .ok (.getfield 294, 3) := by decide +kernel
theorem dX9_build_87 : decode cX9_build 87 = .ok (.goto 10, 3) := by decide +kernel
theorem dX9_build_90 : decode cX9_build 90 = .ok (.aload_n 0, 1) := by decide +kernel
theorem dX9_build_91 : decode cX9_build 91 = .ok (.getfield 64, 3) := by decide +kernel
theorem dX9_build_94 : decode cX9_build 94 = .ok (.getfield 297, 3) := by decide +kernel
theorem dX9_build_97 : decode cX9_build 97 = .ok (.ireturn, 1) := by decide +kernel

set_option maxHeartbeats 4000000 in
set_option maxRecDepth 100000 in
theorem p_build_0 (o : Nat) {n : Nat} {kd : mK} {I : mI} {J : mJ} {P : mP} (hF : fsC o n kd I J P) : Ct yX9_build cX9_build 2 (some .int) 10 1 6 [.ref o, .int (nI 0)] n kd I J P (pC o n kd I J P (.inl (some (.int (nI 9))))) := by
  have hF0 := hF
  obtain ⟨hX, hO, h12, hz, hn, f3, f13, f23, f29, f35, f41, f47, f56, f58, f61, f66, f67, f48⟩ := hF
  have hX0 := hX
  obtain ⟨⟨c0, c1, c2⟩, ⟨s3, s13⟩, ⟨l23, l29, l35⟩, ⟨q41, a47, g56, w58, r61, d66, p67⟩, ⟨e0, e3, e8, e10, e12, e13, e14, e15, e16, e17⟩, ⟨e4, e5, e6, e7⟩, hbs, hfl, ho⟩ := hX
  refine ct_of 0 (by decide +kernel) (Nat.le_of_ble_eq_true rfl) rfl ?_
  refine r_aload_n dX9_build_0 rfl ?_
  refine r_iload_n dX9_build_1 rfl ?_
  refine r_iconst (v := nI 2) dX9_build_2 (by decide) ?_
  refine r_virtO (kc2 := 0) (ks2 := 0) (by have h := c_X9_mustBeWhat (n := n) (kd := kd) (I := I) (J := J) (P := P) o (nI 0) (nI 2); rw [show (!decide (nI 0 < 0) && decide (nI 0 < nI 2)) = true from by decide] at h; exact h) lk_X9_162 mc_X9_mustBeWhat dX9_build_3 c0 (by decide) rfl rfl (Nat.le_of_ble_eq_true rfl) (by decide) (by decide) ?_
  refine r_aload_n dX9_build_6 rfl ?_
  refine r_getR dX9_build_7 fl_X9_27 rfl c0 e4 ?_
  refine r_getI dX9_build_10 fl_X9_124 rfl s3.1 ?_
  rw [show I (o + 3) 0 = nI 0 from by rw [f3.1]; rfl]
  refine r_bipush (v := nI 8) dX9_build_13 (by decide) ?_
  refine r_icmp_lt (tgt := 26) dX9_build_15 (by decide) (fun _ => ?_) (fun hz => absurd (show _ from (by decide)) hz)
  refine r_aload_n dX9_build_26 rfl ?_
  refine r_getR dX9_build_27 fl_X9_31 rfl c0 e5 ?_
  refine r_aload_n dX9_build_30 rfl ?_
  refine r_getR dX9_build_31 fl_X9_27 rfl c0 e4 ?_
  refine r_virt (c_copy0 (o + 13) (o + 3) s13 s3 (by omega) (by rw [f3.1]; rfl) (by rw [f3.1]; rfl) (by rw [f3.1]; rfl) (by rw [f3.1]; rfl) (by rw [f3.1]; rfl)) lk_X9_284 mc_X7_copy dX9_build_34 s13.1 (by decide) rfl rfl (Nat.le_of_ble_eq_true rfl) (Nat.le_of_eq (Nat.zero_add _)) (Nat.le_of_eq (Nat.zero_add _)) (fun _ _ _ _ _ _ h => nomatch h.1) ?_
  rintro v n1 kd1 I1 J1 P1 ⟨q0, rfl, rfl, rfl, rfl, hf1, t0, t1, t2, t3, t6⟩
  cases q0
  simp only [Option.toList, List.nil_append]
  have hself := sI_self (o + 13) I1
  unfold ssOf at hself
  have hn0 : nO (I1 (o + 13) 0) = 0 := by rw [t0]; exact nO_nI (by decide)
  have hn6 : nO (I1 (o + 13) 6) = 0 := by rw [t6]; exact nO_nI (by decide)
  have hah := c_X7_addHouse (n := n1) (J := J1) (I := I1) (o + 13) (nO (I1 (o + 13) 0)) (nO (I1 (o + 13) 6)) (nO (I1 (o + 13) 10)) (I1 (o + 13) 1) (I1 (o + 13) 2) (I1 (o + 13) 3) (I1 (o + 13 + 1)) (I1 (o + 13 + 2)) (I1 (o + 13 + 3)) (I1 (o + 13 + 4)) (I1 (o + 13 + 5)) (I1 (o + 13 + 6)) (I1 (o + 13 + 7)) s13 (by rw [hn0]; decide)
  rw [hself] at hah
  rw [show SS.house (nO (I1 (o + 13) 0), I1 (o + 13) 1, I1 (o + 13) 2, I1 (o + 13) 3, nO (I1 (o + 13) 6), nO (I1 (o + 13) 10), I1 (o + 13 + 1), I1 (o + 13 + 2), I1 (o + 13 + 3), I1 (o + 13 + 4), I1 (o + 13 + 5), I1 (o + 13 + 6), I1 (o + 13 + 7)) = (1, I1 (o + 13) 1, I1 (o + 13) 2, I1 (o + 13) 3, 0, nO (I1 (o + 13) 10), va_up (I1 (o + 13 + 1)) 0 (nI 0), I1 (o + 13 + 2), va_up (I1 (o + 13 + 3)) 0 (nI 0), va_up (I1 (o + 13 + 4)) 0 (nI 0), I1 (o + 13 + 5), va_up (I1 (o + 13 + 6)) 0 (nI (nO (I1 (o + 13) 10))), va_up (I1 (o + 13 + 7)) 0 (nI (nO (I1 (o + 13) 10)))) from by rw [hn0, hn6]; rfl] at hah
  refine r_aload_n dX9_build_37 rfl ?_
  refine r_getR dX9_build_38 fl_X9_31 rfl c0 e5 ?_
  refine r_virt (hah) lk_X9_287 mc_X7_addHouse dX9_build_41 s13.1 (by decide) rfl rfl (Nat.le_of_ble_eq_true rfl) (Nat.le_of_eq (Nat.zero_add _)) (Nat.le_of_eq (Nat.zero_add _)) (fun _ _ _ _ _ _ h => nomatch h.1) ?_
  rintro v n2 kd2 I2 J2 P2 ⟨q0, rfl, rfl, hI2, rfl, rfl⟩
  cases q0
  simp only [Option.toList, List.nil_append]
  have hf2 : ∀ a, (a < o + 13 ∨ o + 13 + 7 < a) → I2 a = I a := fun a ha => by rw [hI2, sI_ne _ _ ha]; exact hf1 a (by omega)
  have hb2 : bI I2 (o + 13) := by
    unfold bI
    rw [hI2]
    refine ⟨by simp [sI, sRow], ?_, ?_, Or.inl ?_, by rw [sI_acf, am_up_s]⟩
    · simp only [sI, sRow, if_true]; rw [if_neg (by decide)]; exact t1
    · simp only [sI, sRow, if_true]; rw [if_neg (by decide), if_neg (by decide)]; exact t2
    · simp only [sI, sRow, if_true]; rw [if_neg (by decide), if_neg (by decide), if_neg (by decide)]; exact t3
  clear hI2
  refine r_aload_n dX9_build_44 rfl ?_
  refine r_getR dX9_build_45 fl_X9_41 rfl c0 e7 ?_
  refine r_aload_n dX9_build_48 rfl ?_
  refine r_getR dX9_build_49 fl_X9_37 rfl c0 e6 ?_
  refine r_virt (c_X2_copy (o + 29) (o + 23) l29 l23 (by omega)) lk_X9_264 mc_X2_copy dX9_build_52 l29.1 (by decide) rfl rfl (Nat.le_of_ble_eq_true rfl) (Nat.le_of_eq (Nat.zero_add _)) (Nat.le_of_eq (Nat.zero_add _)) (fun _ _ _ _ _ _ h => nomatch h.1) ?_
  rintro v n3 kd3 I3 J3 P3 ⟨q0, rfl, rfl, rfl, rfl, hf3, ⟨y2, y4, y7⟩, y8, -, -⟩
  cases q0
  simp only [Option.toList, List.nil_append]
  have hb3 : bI I3 (o + 13) := by
    unfold bI
    rw [hf3 (o + 13) (by omega), hf3 (o + 13 + 3) (by omega)]
    exact hb2
  have e23 : ∀ k, k ≤ 5 → I2 (o + 23 + k) = I (o + 23 + k) := fun k hk => hf2 _ (by omega)
  have hl3 : lI0 I3 (o + 29) := by
    refine ⟨?_, ?_, fun j hj => ⟨?_, ?_⟩⟩
    · rw [y2, show I2 (o + 23) = I (o + 23) from e23 0 (by decide), f23.1]; rfl
    · rw [y7, show I2 (o + 23) = I (o + 23) from e23 0 (by decide), f23.1]; rfl
    · rw [(y8 j hj).1, e23 1 (by decide), (f23.2 1 (by decide) (by decide)).1]; rfl
    · rw [(y8 j hj).2, e23 2 (by decide), (f23.2 2 (by decide) (by decide)).1]; rfl
  refine r_aload_n dX9_build_55 rfl ?_
  refine r_getR dX9_build_56 fl_X9_64 rfl c0 e12 ?_
  refine r_aload_n dX9_build_59 rfl ?_
  refine r_getR dX9_build_60 fl_X9_31 rfl c0 e5 ?_
  refine r_aload_n dX9_build_63 rfl ?_
  refine r_getR dX9_build_64 fl_X9_41 rfl c0 e7 ?_
  refine r_virt (c_tryNew o hX0 hb3 hl3) lk_X9_290 mc_X0_tryNewRiddles dX9_build_67 a47.1 (by decide) rfl rfl (Nat.le_of_ble_eq_true rfl) (Nat.le_of_eq (Nat.zero_add _)) (Nat.le_of_eq (Nat.zero_add _)) (fun _ _ _ _ _ _ h => nomatch h.1) ?_
  rintro v n4 kd4 I4 J4 P4 ⟨q0, rfl, rfl, hX4, hfr4, hg4, hf4⟩
  cases q0
  simp only [Option.toList, List.cons_append, List.nil_append]
  have e12' := hX4.2.2.2.2.1.2.2.2.2.1
  refine r_if_ne (tgt := 76) dX9_build_70 (by decide) (fun _ => ?_) (fun hz => absurd hz (show ¬ _ from (by decide)))
  refine r_iload_n dX9_build_76 rfl ?_
  refine r_if_ne (tgt := 90) dX9_build_77 (by decide) (fun hz => absurd (show _ from (by decide)) hz) (fun _ => ?_)
  refine r_aload_n dX9_build_80 rfl ?_
  refine r_getR dX9_build_81 fl_X9_64 rfl c0 e12' ?_
  refine r_getI dX9_build_84 fl_X9_294 rfl a47.1 ?_
  rw [hg4]
  refine r_goto (tgt := 97) dX9_build_87 (by decide) ?_
  refine r_iret rfl dX9_build_97 ?_
  exact ⟨rfl, ⟨by omega, by omega⟩, fun a a1 _ => ⟨rfl, by rw [(hfr4 a a1).1, hf3 a (by omega)]; exact hf2 a (by omega), (hfr4 a a1).2.1, (hfr4 a a1).2.2⟩⟩

set_option maxHeartbeats 4000000 in
set_option maxRecDepth 100000 in
theorem p_build_1 (o : Nat) {n : Nat} {kd : mK} {I : mI} {J : mJ} {P : mP} (hF : fsC o n kd I J P) : Ct yX9_build cX9_build 2 (some .int) 10 1 6 [.ref o, .int (nI 1)] n kd I J P (pC o n kd I J P (.inl (some (.int (nI 1))))) := by
  have hF0 := hF
  obtain ⟨hX, hO, h12, hz, hn, f3, f13, f23, f29, f35, f41, f47, f56, f58, f61, f66, f67, f48⟩ := hF
  have hX0 := hX
  obtain ⟨⟨c0, c1, c2⟩, ⟨s3, s13⟩, ⟨l23, l29, l35⟩, ⟨q41, a47, g56, w58, r61, d66, p67⟩, ⟨e0, e3, e8, e10, e12, e13, e14, e15, e16, e17⟩, ⟨e4, e5, e6, e7⟩, hbs, hfl, ho⟩ := hX
  refine ct_of 0 (by decide +kernel) (Nat.le_of_ble_eq_true rfl) rfl ?_
  refine r_aload_n dX9_build_0 rfl ?_
  refine r_iload_n dX9_build_1 rfl ?_
  refine r_iconst (v := nI 2) dX9_build_2 (by decide) ?_
  refine r_virtO (kc2 := 0) (ks2 := 0) (by have h := c_X9_mustBeWhat (n := n) (kd := kd) (I := I) (J := J) (P := P) o (nI 1) (nI 2); rw [show (!decide (nI 1 < 0) && decide (nI 1 < nI 2)) = true from by decide] at h; exact h) lk_X9_162 mc_X9_mustBeWhat dX9_build_3 c0 (by decide) rfl rfl (Nat.le_of_ble_eq_true rfl) (by decide) (by decide) ?_
  refine r_aload_n dX9_build_6 rfl ?_
  refine r_getR dX9_build_7 fl_X9_27 rfl c0 e4 ?_
  refine r_getI dX9_build_10 fl_X9_124 rfl s3.1 ?_
  rw [show I (o + 3) 0 = nI 0 from by rw [f3.1]; rfl]
  refine r_bipush (v := nI 8) dX9_build_13 (by decide) ?_
  refine r_icmp_lt (tgt := 26) dX9_build_15 (by decide) (fun _ => ?_) (fun hz => absurd (show _ from (by decide)) hz)
  refine r_aload_n dX9_build_26 rfl ?_
  refine r_getR dX9_build_27 fl_X9_31 rfl c0 e5 ?_
  refine r_aload_n dX9_build_30 rfl ?_
  refine r_getR dX9_build_31 fl_X9_27 rfl c0 e4 ?_
  refine r_virt (c_copy0 (o + 13) (o + 3) s13 s3 (by omega) (by rw [f3.1]; rfl) (by rw [f3.1]; rfl) (by rw [f3.1]; rfl) (by rw [f3.1]; rfl) (by rw [f3.1]; rfl)) lk_X9_284 mc_X7_copy dX9_build_34 s13.1 (by decide) rfl rfl (Nat.le_of_ble_eq_true rfl) (Nat.le_of_eq (Nat.zero_add _)) (Nat.le_of_eq (Nat.zero_add _)) (fun _ _ _ _ _ _ h => nomatch h.1) ?_
  rintro v n1 kd1 I1 J1 P1 ⟨q0, rfl, rfl, rfl, rfl, hf1, t0, t1, t2, t3, t6⟩
  cases q0
  simp only [Option.toList, List.nil_append]
  have hself := sI_self (o + 13) I1
  unfold ssOf at hself
  have hn0 : nO (I1 (o + 13) 0) = 0 := by rw [t0]; exact nO_nI (by decide)
  have hn6 : nO (I1 (o + 13) 6) = 0 := by rw [t6]; exact nO_nI (by decide)
  have hah := c_X7_addHouse (n := n1) (J := J1) (I := I1) (o + 13) (nO (I1 (o + 13) 0)) (nO (I1 (o + 13) 6)) (nO (I1 (o + 13) 10)) (I1 (o + 13) 1) (I1 (o + 13) 2) (I1 (o + 13) 3) (I1 (o + 13 + 1)) (I1 (o + 13 + 2)) (I1 (o + 13 + 3)) (I1 (o + 13 + 4)) (I1 (o + 13 + 5)) (I1 (o + 13 + 6)) (I1 (o + 13 + 7)) s13 (by rw [hn0]; decide)
  rw [hself] at hah
  rw [show SS.house (nO (I1 (o + 13) 0), I1 (o + 13) 1, I1 (o + 13) 2, I1 (o + 13) 3, nO (I1 (o + 13) 6), nO (I1 (o + 13) 10), I1 (o + 13 + 1), I1 (o + 13 + 2), I1 (o + 13 + 3), I1 (o + 13 + 4), I1 (o + 13 + 5), I1 (o + 13 + 6), I1 (o + 13 + 7)) = (1, I1 (o + 13) 1, I1 (o + 13) 2, I1 (o + 13) 3, 0, nO (I1 (o + 13) 10), va_up (I1 (o + 13 + 1)) 0 (nI 0), I1 (o + 13 + 2), va_up (I1 (o + 13 + 3)) 0 (nI 0), va_up (I1 (o + 13 + 4)) 0 (nI 0), I1 (o + 13 + 5), va_up (I1 (o + 13 + 6)) 0 (nI (nO (I1 (o + 13) 10))), va_up (I1 (o + 13 + 7)) 0 (nI (nO (I1 (o + 13) 10)))) from by rw [hn0, hn6]; rfl] at hah
  refine r_aload_n dX9_build_37 rfl ?_
  refine r_getR dX9_build_38 fl_X9_31 rfl c0 e5 ?_
  refine r_virt (hah) lk_X9_287 mc_X7_addHouse dX9_build_41 s13.1 (by decide) rfl rfl (Nat.le_of_ble_eq_true rfl) (Nat.le_of_eq (Nat.zero_add _)) (Nat.le_of_eq (Nat.zero_add _)) (fun _ _ _ _ _ _ h => nomatch h.1) ?_
  rintro v n2 kd2 I2 J2 P2 ⟨q0, rfl, rfl, hI2, rfl, rfl⟩
  cases q0
  simp only [Option.toList, List.nil_append]
  have hf2 : ∀ a, (a < o + 13 ∨ o + 13 + 7 < a) → I2 a = I a := fun a ha => by rw [hI2, sI_ne _ _ ha]; exact hf1 a (by omega)
  have hb2 : bI I2 (o + 13) := by
    unfold bI
    rw [hI2]
    refine ⟨by simp [sI, sRow], ?_, ?_, Or.inl ?_, by rw [sI_acf, am_up_s]⟩
    · simp only [sI, sRow, if_true]; rw [if_neg (by decide)]; exact t1
    · simp only [sI, sRow, if_true]; rw [if_neg (by decide), if_neg (by decide)]; exact t2
    · simp only [sI, sRow, if_true]; rw [if_neg (by decide), if_neg (by decide), if_neg (by decide)]; exact t3
  clear hI2
  refine r_aload_n dX9_build_44 rfl ?_
  refine r_getR dX9_build_45 fl_X9_41 rfl c0 e7 ?_
  refine r_aload_n dX9_build_48 rfl ?_
  refine r_getR dX9_build_49 fl_X9_37 rfl c0 e6 ?_
  refine r_virt (c_X2_copy (o + 29) (o + 23) l29 l23 (by omega)) lk_X9_264 mc_X2_copy dX9_build_52 l29.1 (by decide) rfl rfl (Nat.le_of_ble_eq_true rfl) (Nat.le_of_eq (Nat.zero_add _)) (Nat.le_of_eq (Nat.zero_add _)) (fun _ _ _ _ _ _ h => nomatch h.1) ?_
  rintro v n3 kd3 I3 J3 P3 ⟨q0, rfl, rfl, rfl, rfl, hf3, ⟨y2, y4, y7⟩, y8, -, -⟩
  cases q0
  simp only [Option.toList, List.nil_append]
  have hb3 : bI I3 (o + 13) := by
    unfold bI
    rw [hf3 (o + 13) (by omega), hf3 (o + 13 + 3) (by omega)]
    exact hb2
  have e23 : ∀ k, k ≤ 5 → I2 (o + 23 + k) = I (o + 23 + k) := fun k hk => hf2 _ (by omega)
  have hl3 : lI0 I3 (o + 29) := by
    refine ⟨?_, ?_, fun j hj => ⟨?_, ?_⟩⟩
    · rw [y2, show I2 (o + 23) = I (o + 23) from e23 0 (by decide), f23.1]; rfl
    · rw [y7, show I2 (o + 23) = I (o + 23) from e23 0 (by decide), f23.1]; rfl
    · rw [(y8 j hj).1, e23 1 (by decide), (f23.2 1 (by decide) (by decide)).1]; rfl
    · rw [(y8 j hj).2, e23 2 (by decide), (f23.2 2 (by decide) (by decide)).1]; rfl
  refine r_aload_n dX9_build_55 rfl ?_
  refine r_getR dX9_build_56 fl_X9_64 rfl c0 e12 ?_
  refine r_aload_n dX9_build_59 rfl ?_
  refine r_getR dX9_build_60 fl_X9_31 rfl c0 e5 ?_
  refine r_aload_n dX9_build_63 rfl ?_
  refine r_getR dX9_build_64 fl_X9_41 rfl c0 e7 ?_
  refine r_virt (c_tryNew o hX0 hb3 hl3) lk_X9_290 mc_X0_tryNewRiddles dX9_build_67 a47.1 (by decide) rfl rfl (Nat.le_of_ble_eq_true rfl) (Nat.le_of_eq (Nat.zero_add _)) (Nat.le_of_eq (Nat.zero_add _)) (fun _ _ _ _ _ _ h => nomatch h.1) ?_
  rintro v n4 kd4 I4 J4 P4 ⟨q0, rfl, rfl, hX4, hfr4, hg4, hf4⟩
  cases q0
  simp only [Option.toList, List.cons_append, List.nil_append]
  have e12' := hX4.2.2.2.2.1.2.2.2.2.1
  refine r_if_ne (tgt := 76) dX9_build_70 (by decide) (fun _ => ?_) (fun hz => absurd hz (show ¬ _ from (by decide)))
  refine r_iload_n dX9_build_76 rfl ?_
  refine r_if_ne (tgt := 90) dX9_build_77 (by decide) (fun _ => ?_) (fun hz => absurd hz (show ¬ _ from (by decide)))
  refine r_aload_n dX9_build_90 rfl ?_
  refine r_getR dX9_build_91 fl_X9_64 rfl c0 e12' ?_
  refine r_getI dX9_build_94 fl_X9_297 rfl a47.1 ?_
  rw [hf4]
  refine r_iret rfl dX9_build_97 ?_
  exact ⟨rfl, ⟨by omega, by omega⟩, fun a a1 _ => ⟨rfl, by rw [(hfr4 a a1).1, hf3 a (by omega)]; exact hf2 a (by omega), (hfr4 a a1).2.1, (hfr4 a a1).2.2⟩⟩

set_option maxHeartbeats 4000000 in
set_option maxRecDepth 100000 in
theorem p_build_no (o : Nat) (x : Int32) {n : Nat} {kd : mK} {I : mI} {J : mJ} {P : mP} (hF : fsC o n kd I J P) (h0 : ¬ x = 0) (h1 : ¬ x = nI 1) : Ct yX9_build cX9_build 2 (some .int) 10 1 6 [.ref o, .int x] n kd I J P (pC o n kd I J P (.inr "java/util/NoSuchElementException")) := by
  have hF0 := hF
  obtain ⟨hX, hO, h12, hz, hn, f3, f13, f23, f29, f35, f41, f47, f56, f58, f61, f66, f67, f48⟩ := hF
  have hX0 := hX
  obtain ⟨⟨c0, c1, c2⟩, ⟨s3, s13⟩, ⟨l23, l29, l35⟩, ⟨q41, a47, g56, w58, r61, d66, p67⟩, ⟨e0, e3, e8, e10, e12, e13, e14, e15, e16, e17⟩, ⟨e4, e5, e6, e7⟩, hbs, hfl, ho⟩ := hX
  refine ct_of 0 (by decide +kernel) (Nat.le_of_ble_eq_true rfl) rfl ?_
  refine r_aload_n dX9_build_0 rfl ?_
  refine r_iload_n dX9_build_1 rfl ?_
  refine r_iconst (v := nI 2) dX9_build_2 (by decide) ?_
  refine r_virtX (v := none) (by have h := c_X9_mustBeWhat (n := n) (kd := kd) (I := I) (J := J) (P := P) o x (nI 2); rw [two_no h0 h1] at h; exact h) lk_X9_162 mc_X9_mustBeWhat dX9_build_3 c0 (by decide) rfl rfl (Nat.le_of_ble_eq_true rfl) (by decide) (by decide) pC.eq


/-! BUILD: all new riddles, in the class -/
def bA1 (G : List Nat → Nat × List (Nat → Nat) × Bool) (H : Nat) : Nat → Option (Int32 × Int32)
  | 0 => some (nI 0, -1)
  | c + 1 => bSt (bA1 G H c) (G (nr1 H (c + 1))) (nI (c + 1))
def bA2 (G : List Nat → Nat × List (Nat → Nat) × Bool) (H a bs lo k : Nat) (acc : Option (Int32 × Int32)) : Nat → Option (Int32 × Int32)
  | 0 => acc
  | j + 1 => bSt (bA2 G H a bs lo k acc j) (G (nr2 H k (lo + j) a)) (nI (bs + 100 * k + (lo + j)))
def bA3 (G : List Nat → Nat × List (Nat → Nat) × Bool) (H a bs lo : Nat) (acc : Option (Int32 × Int32)) : Nat → Option (Int32 × Int32)
  | 0 => acc
  | k + 1 => bA2 G H a bs lo k (bA3 G H a bs lo acc k) (10 - lo)
def bAll (G : List Nat → Nat × List (Nat → Nat) × Bool) (H M : Nat) : Option (Int32 × Int32) := bA3 G H 20006 2000 2 (bA3 G H 20004 1000 0 (bA1 G H M) H) H
theorem bSt_no (B : Nat × List (Nat → Nat) × Bool) (nm : Int32) : bSt none B nm = none := rfl
theorem bA1_no {G : List Nat → Nat × List (Nat → Nat) × Bool} {H j : Nat} (h : bA1 G H j = none) : ∀ i, bA1 G H (j + i) = none
  | 0 => h
  | i + 1 => by show bSt (bA1 G H (j + i)) _ _ = none; rw [bA1_no h i]; rfl
theorem bA2_no {G : List Nat → Nat × List (Nat → Nat) × Bool} {H a bs lo k j : Nat} {acc : Option (Int32 × Int32)} (h : bA2 G H a bs lo k acc j = none) : ∀ i, bA2 G H a bs lo k acc (j + i) = none
  | 0 => h
  | i + 1 => by show bSt (bA2 G H a bs lo k acc (j + i)) _ _ = none; rw [bA2_no h i]; rfl
theorem bLp.up {o b s f l n : Nat} {kd : mK} {I0 : mI} {J0 : mJ} {P0 : mP} {I : mI} {J : mJ} {P : mP} {t : Nat} {T : Nat → Nat} {fp : Int32} {rr : Nat → Int32} {H M : Nat} {un : Bool} {cs : Nat → List Nat} {tx : Nat → List Int32} {e : Lf} {im : Option Lf} {wk : Option (List Nat)} {acc acc' : Option (Int32 × Int32)} (hf : ∀ I' : mI, True) (h : acc = acc') (hb : bLp o b s f l n kd I0 J0 P0 I J P t T fp rr H M un cs tx e im wk acc) : bLp o b s f l n kd I0 J0 P0 I J P t T fp rr H M un cs tx e im wk acc' := h ▸ hb
theorem dX0_beginRiddleOfTwo_0 : decode cX0_beginRiddleOfTwo 0 = .ok (.aload_n 1, 1) := by decide +kernel
theorem dX0_beginRiddleOfTwo_1 : decode cX0_beginRiddleOfTwo 1 = .ok (.invokevirtual 83, 3) := by decide +kernel
theorem dX0_beginRiddleOfTwo_4 : decode cX0_beginRiddleOfTwo 4 = .ok (.aload_n 1, 1) := by decide +kernel
theorem dX0_beginRiddleOfTwo_5 : decode cX0_beginRiddleOfTwo 5 = .ok (.sipush 10000, 3) := by decide +kernel
theorem dX0_beginRiddleOfTwo_8 : decode cX0_beginRiddleOfTwo 8 = .ok (.aload_n 1, 1) := by decide +kernel
theorem dX0_beginRiddleOfTwo_9 : decode cX0_beginRiddleOfTwo 9 = .ok (.getfield 77, 3) := by decide +kernel
theorem dX0_beginRiddleOfTwo_12 : decode cX0_beginRiddleOfTwo 12 = .ok (.iadd, 1) := by decide +kernel
theorem dX0_beginRiddleOfTwo_13 : decode cX0_beginRiddleOfTwo 13 = .ok (.iconst 1, 1) := by decide +kernel
theorem dX0_beginRiddleOfTwo_14 : decode cX0_beginRiddleOfTwo 14 = .ok (.isub, 1) := by decide +kernel
theorem dX0_beginRiddleOfTwo_15 : decode cX0_beginRiddleOfTwo 15 = .ok (.invokevirtual 86, 3) := by decide +kernel
theorem dX0_beginRiddleOfTwo_18 : decode cX0_beginRiddleOfTwo 18 = .ok (.aload_n 1, 1) := by decide +kernel
theorem dX0_beginRiddleOfTwo_19 : decode cX0_beginRiddleOfTwo 19 = .ok (.sipush 10000, 3) := by decide +kernel
theorem dX0_beginRiddleOfTwo_22 : decode cX0_beginRiddleOfTwo 22 = .ok (.iload_n 2, 1) := by decide +kernel
theorem dX0_beginRiddleOfTwo_23 : decode cX0_beginRiddleOfTwo 23 = .ok (.iadd, 1) := by decide +kernel
theorem dX0_beginRiddleOfTwo_24 : decode cX0_beginRiddleOfTwo 24 = .ok (.invokevirtual 86, 3) := by decide +kernel
theorem dX0_beginRiddleOfTwo_27 : decode cX0_beginRiddleOfTwo 27 = .ok (.aload_n 1, 1) := by decide +kernel
theorem dX0_beginRiddleOfTwo_28 : decode cX0_beginRiddleOfTwo 28 = .ok (.iload_n 3, 1) := by decide +kernel
theorem dX0_beginRiddleOfTwo_29 : decode cX0_beginRiddleOfTwo 29 = .ok (.invokevirtual 86, 3) := by decide +kernel
theorem dX0_beginRiddleOfTwo_32 : decode cX0_beginRiddleOfTwo 32 = .ok (.return_, 1) := by decide +kernel

set_option maxHeartbeats 4000000 in
set_option maxRecDepth 100000 in
theorem c_twoP (a k c : Nat) {s H M : Nat} {un : Bool} {cs : Nat → List Nat} {n : Nat} {kd : mK} {I : mI} {J : mJ} {P : mP} (hSs : kS kd P s) (hH7 : H < 8) (hof : ofs cs H ≤ 500) (hk : k < 8) (hc : c < 10) (hp : nwS I s H M un cs) : Ct yX0_beginRiddleOfTwo cX0_beginRiddleOfTwo 4 none 2 0 0 [.ref a, .ref s, .int (nI k), .int (nI c)] n kd I J P (fun z n' kd' I' J' P' => z = .inl none ∧ n' = n ∧ kd' = kd ∧ J' = J ∧ P' = P ∧ (∀ a, (a < s ∨ s + 7 < a) → I' a = I a) ∧ nwP I' s H M un cs [10000 + H, 10000 + k, c]) := by
  refine ct_of 0 (by decide +kernel) (Nat.le_of_ble_eq_true rfl) rfl ?_
  refine r_aload_n dX0_beginRiddleOfTwo_0 rfl ?_
  refine r_virt (kc2 := 0) (ks2 := 0) (c_begP hSs hH7 hp) lk_X0_83 mc_X7_beginRiddle dX0_beginRiddleOfTwo_1 hSs.1 (by decide) rfl rfl (Nat.le_of_ble_eq_true rfl) (by decide) (by decide) (fun _ _ _ _ _ _ h => nomatch h.1) ?_
  rintro v5 n1 kd1 I5 J1 P1 ⟨h00, rfl, rfl, rfl, rfl, hf5, hp5⟩
  cases h00
  simp only [Option.toList, List.nil_append]
  refine r_aload_n dX0_beginRiddleOfTwo_4 rfl ?_
  refine r_sipush (v := nI 10000) dX0_beginRiddleOfTwo_5 (by decide) ?_
  refine r_aload_n dX0_beginRiddleOfTwo_8 rfl ?_
  refine r_getI dX0_beginRiddleOfTwo_9 fl_X0_77 rfl hSs.1 ?_
  rw [hp5.1.1.1]
  refine r_iadd dX0_beginRiddleOfTwo_12 ?_
  rw [nI_add]
  refine r_iconst (v := nI 1) dX0_beginRiddleOfTwo_13 (by decide) ?_
  refine r_isub dX0_beginRiddleOfTwo_14 ?_
  rw [pk_sub (by omega), show 10000 + (H + 1) - 1 = 10000 + H by omega]
  refine r_virt (kc2 := 0) (ks2 := 0) (c_codeP (10000 + H) hSs hH7 (by show ofs cs H + 0 < 520; omega) (by omega) (by omega) hp5) lk_X0_86 mc_X7_addCode dX0_beginRiddleOfTwo_15 hSs.1 (by decide) rfl rfl (Nat.le_of_ble_eq_true rfl) (by decide) (by decide) (fun _ _ _ _ _ _ h => nomatch h.1) ?_
  rintro v6 n1 kd1 I6 J1 P1 ⟨h00, rfl, rfl, rfl, rfl, hf6, hp6⟩
  cases h00
  simp only [Option.toList, List.nil_append]
  refine r_aload_n dX0_beginRiddleOfTwo_18 rfl ?_
  refine r_sipush (v := nI 10000) dX0_beginRiddleOfTwo_19 (by decide) ?_
  refine r_iload_n dX0_beginRiddleOfTwo_22 rfl ?_
  refine r_iadd dX0_beginRiddleOfTwo_23 ?_
  rw [nI_add]
  refine r_virt (kc2 := 0) (ks2 := 0) (c_codeP (10000 + k) hSs hH7 (by show ofs cs H + 1 < 520; omega) (by omega) (by omega) hp6) lk_X0_86 mc_X7_addCode dX0_beginRiddleOfTwo_24 hSs.1 (by decide) rfl rfl (Nat.le_of_ble_eq_true rfl) (by decide) (by decide) (fun _ _ _ _ _ _ h => nomatch h.1) ?_
  rintro v7 n1 kd1 I7 J1 P1 ⟨h00, rfl, rfl, rfl, rfl, hf7, hp7⟩
  cases h00
  simp only [Option.toList, List.nil_append]
  refine r_aload_n dX0_beginRiddleOfTwo_27 rfl ?_
  refine r_iload_n dX0_beginRiddleOfTwo_28 rfl ?_
  refine r_virt (kc2 := 0) (ks2 := 0) (c_codeP (c) hSs hH7 (by show ofs cs H + 2 < 520; omega) (by omega) (by omega) hp7) lk_X0_86 mc_X7_addCode dX0_beginRiddleOfTwo_29 hSs.1 (by decide) rfl rfl (Nat.le_of_ble_eq_true rfl) (by decide) (by decide) (fun _ _ _ _ _ _ h => nomatch h.1) ?_
  rintro v8 n1 kd1 I8 J1 P1 ⟨h00, rfl, rfl, rfl, rfl, hf8, hp8⟩
  cases h00
  simp only [Option.toList, List.nil_append]
  refine r_vret rfl dX0_beginRiddleOfTwo_32 ?_
  exact ⟨rfl, rfl, rfl, rfl, rfl, fun a ha => by rw [hf8 a ha, hf7 a ha, hf6 a ha, hf5 a ha], hp8⟩

set_option maxHeartbeats 4000000 in
set_option maxRecDepth 100000 in
theorem c_countQ (o b s f l : Nat) (r q : List Nat) (g v nm : Int32) {I0 I2 : mI} {J0 : mJ} {P0 : mP} {t : Nat} {T : Nat → Nat} {fp : Int32} {rr : Nat → Int32} {H M : Nat} {un : Bool} {cs : Nat → List Nat} {tx : Nat → List Int32} {e : Lf} {im : Option Lf} {wk : Option (List Nat)} {n : Nat} {kd : mK} {I : mI} {J : mJ} {P : mP} (hz : okZ t T H M cs e) (hH7 : H < 8) (hb : bLp o b s f l n kd I0 J0 P0 I J P t T fp rr H M un cs tx e im wk (some (g, v))) (hf : ∀ a, (a < s ∨ s + 7 < a) → I2 a = I a) (hp : nwP I2 s H M un cs r) (hrq : r ++ [20009] = q) (hrl : r.length ≤ 4) (hro : okd q 0 ∧ ∀ c ∈ q, c < 20012 ∧ (10000 ≤ c → c < 20000 → c < 10009)) (hrn : ∀ c ∈ q, ¬ (c = 20000 ∨ c = 20001)) : Ct yX0_countRiddle cX0_countRiddle 5 (some .boolean) 8 0 0 [.ref (o + 47), .ref s, .ref l, .int nm] n kd I2 J P (fun z n' kd' I' J' P' => z = .inl (some (.int (bz (bSt (some (g, v)) (bR H M un cs e q) nm).isSome))) ∧ n' = n ∧ kd' = kd ∧ bLp o b s f l n kd I0 J0 P0 I' J' P' t T fp rr H M un cs tx e im wk (bSt (some (g, v)) (bR H M un cs e q) nm)) := by
  subst hrq
  obtain ⟨hC, hB, hcl, hn, h3, h4⟩ := hb
  have hat := hC.1.at
  exact c_countR2 o b s f l r g v nm (hC.sp (fun a ha => hf a (by omega))) hz (Bs.sp (s := s) (by omega) (fun a ha => hf a (by omega)) hB) (hcl.cg (fun a a1 a2 => hf a (by omega))) hH7 hp hrl hro hrn (by rw [hf _ (by omega)]; exact h3) (by rw [hf _ (by omega)]; exact h4)

theorem nr1_no {H c : Nat} (hH : H < 9) (hc : c < 10000) : ∀ x ∈ nr1 H c, ¬ (x = 20000 ∨ x = 20001) := by
  intro x hx
  simp only [nr1, List.mem_cons, List.not_mem_nil, or_false] at hx
  omega
theorem nr2_no {H k c a : Nat} (hH : H < 9) (hk : k < 9) (hc : c < 10000) (ha : a = 20004 ∨ a = 20006) : ∀ x ∈ nr2 H k c a, ¬ (x = 20000 ∨ x = 20001) := by
  intro x hx
  simp only [nr2, List.mem_cons, List.not_mem_nil, or_false] at hx
  omega
theorem dX0_tryNewRiddles_0 : decode cX0_tryNewRiddles 0 = .ok (.aload_n 1, 1) := by decide +kernel
theorem dX0_tryNewRiddles_1 : decode cX0_tryNewRiddles 1 = .ok (.getfield 77, 3) := by decide +kernel
theorem dX0_tryNewRiddles_4 : decode cX0_tryNewRiddles 4 = .ok (.iconst 1, 1) := by decide +kernel
theorem dX0_tryNewRiddles_5 : decode cX0_tryNewRiddles 5 = .ok (.isub, 1) := by decide +kernel
theorem dX0_tryNewRiddles_6 : decode cX0_tryNewRiddles 6 = .ok (.istore_n 3, 1) := by decide +kernel
theorem dX0_tryNewRiddles_7 : decode cX0_tryNewRiddles 7 = .ok (.aload_n 0, 1) := by decide +kernel
theorem dX0_tryNewRiddles_8 : decode cX0_tryNewRiddles 8 = .ok (.iconst 0, 1) := by decide +kernel
theorem dX0_tryNewRiddles_9 : decode cX0_tryNewRiddles 9 = .ok (.putfield 25, 3) := by decide +kernel
theorem dX0_tryNewRiddles_12 : decode cX0_tryNewRiddles 12 = .ok (.aload_n 0, 1) := by decide +kernel
theorem dX0_tryNewRiddles_13 : decode cX0_tryNewRiddles 13 = .ok (.iconst (-1), 1) := by decide +kernel
theorem dX0_tryNewRiddles_14 : decode cX0_tryNewRiddles 14 = .ok (.putfield 29, 3) := by decide +kernel
theorem dX0_tryNewRiddles_17 : decode cX0_tryNewRiddles 17 = .ok (.iconst 1, 1) := by decide +kernel
theorem dX0_tryNewRiddles_18 : decode cX0_tryNewRiddles 18 = .ok (.istore 4, 2) := by decide +kernel
theorem dX0_tryNewRiddles_20 : decode cX0_tryNewRiddles 20 = .ok (.iconst 1, 1) := by decide +kernel
theorem dX0_tryNewRiddles_21 : decode cX0_tryNewRiddles 21 = .ok (.istore 5, 2) := by decide +kernel
theorem dX0_tryNewRiddles_23 : decode cX0_tryNewRiddles 23 = .ok (.iload 5, 2) := by decide +kernel
theorem dX0_tryNewRiddles_25 : decode cX0_tryNewRiddles 25 = .ok (.aload_n 1, 1) := by decide +kernel
theorem dX0_tryNewRiddles_26 : decode cX0_tryNewRiddles 26 = .ok (.getfield 80, 3) := by decide +kernel
theorem dX0_tryNewRiddles_29 : decode cX0_tryNewRiddles 29 = .ok (.if_icmp .gt 43, 3) := by decide +kernel
theorem dX0_tryNewRiddles_32 : decode cX0_tryNewRiddles 32 = .ok (.iload 4, 2) := by decide +kernel
theorem dX0_tryNewRiddles_34 : decode cX0_tryNewRiddles 34 = .ok (.ifCond .eq 38, 3) := by decide +kernel
theorem dX0_tryNewRiddles_37 : decode cX0_tryNewRiddles 37 = .ok (.aload_n 1, 1) := by decide +kernel
theorem dX0_tryNewRiddles_38 : decode cX0_tryNewRiddles 38 = .ok (.invokevirtual 83, 3) := by decide +kernel
theorem dX0_tryNewRiddles_41 : decode cX0_tryNewRiddles 41 = .ok (.aload_n 1, 1) := by decide +kernel
theorem dX0_tryNewRiddles_42 : decode cX0_tryNewRiddles 42 = .ok (.sipush 10000, 3) := by decide +kernel
theorem dX0_tryNewRiddles_45 : decode cX0_tryNewRiddles 45 = .ok (.iload_n 3, 1) := by decide +kernel
theorem dX0_tryNewRiddles_46 : decode cX0_tryNewRiddles 46 = .ok (.iadd, 1) := by decide +kernel
theorem dX0_tryNewRiddles_47 : decode cX0_tryNewRiddles 47 = .ok (.invokevirtual 86, 3) := by decide +kernel
theorem dX0_tryNewRiddles_50 : decode cX0_tryNewRiddles 50 = .ok (.aload_n 1, 1) := by decide +kernel
theorem dX0_tryNewRiddles_51 : decode cX0_tryNewRiddles 51 = .ok (.iload 5, 2) := by decide +kernel
theorem dX0_tryNewRiddles_53 : decode cX0_tryNewRiddles 53 = .ok (.invokevirtual 86, 3) := by decide +kernel
theorem dX0_tryNewRiddles_56 : decode cX0_tryNewRiddles 56 = .ok (.aload_n 0, 1) := by decide +kernel
theorem dX0_tryNewRiddles_57 : decode cX0_tryNewRiddles 57 = .ok (.aload_n 1, 1) := by decide +kernel
theorem dX0_tryNewRiddles_58 : decode cX0_tryNewRiddles 58 = .ok (.aload_n 2, 1) := by decide +kernel
theorem dX0_tryNewRiddles_59 : decode cX0_tryNewRiddles 59 = .ok (.iload 5, 2) := by decide +kernel
theorem dX0_tryNewRiddles_61 : decode cX0_tryNewRiddles 61 = .ok (.invokevirtual 90, 3) := by decide +kernel
theorem dX0_tryNewRiddles_64 : decode cX0_tryNewRiddles 64 = .ok (.istore 4, 2) := by decide +kernel
theorem dX0_tryNewRiddles_66 : decode cX0_tryNewRiddles 66 = .ok (.iinc 5 1, 3) := by decide +kernel
theorem dX0_tryNewRiddles_69 : decode cX0_tryNewRiddles 69 = .ok (.goto (-46), 3) := by decide +kernel
theorem dX0_tryNewRiddles_72 : decode cX0_tryNewRiddles 72 = .ok (.iconst 0, 1) := by decide +kernel
theorem dX0_tryNewRiddles_73 : decode cX0_tryNewRiddles 73 = .ok (.istore 5, 2) := by decide +kernel
theorem dX0_tryNewRiddles_75 : decode cX0_tryNewRiddles 75 = .ok (.iload 5, 2) := by decide +kernel
theorem dX0_tryNewRiddles_77 : decode cX0_tryNewRiddles 77 = .ok (.iload_n 3, 1) := by decide +kernel
theorem dX0_tryNewRiddles_78 : decode cX0_tryNewRiddles 78 = .ok (.if_icmp .ge 66, 3) := by decide +kernel
theorem dX0_tryNewRiddles_81 : decode cX0_tryNewRiddles 81 = .ok (.iconst 0, 1) := by decide +kernel
theorem dX0_tryNewRiddles_82 : decode cX0_tryNewRiddles 82 = .ok (.istore 6, 2) := by decide +kernel
theorem dX0_tryNewRiddles_84 : decode cX0_tryNewRiddles 84 = .ok (.iload 6, 2) := by decide +kernel
theorem dX0_tryNewRiddles_86 : decode cX0_tryNewRiddles 86 = .ok (.bipush 9, 2) := by decide +kernel
theorem dX0_tryNewRiddles_88 : decode cX0_tryNewRiddles 88 = .ok (.if_icmp .gt 50, 3) := by decide +kernel
theorem dX0_tryNewRiddles_91 : decode cX0_tryNewRiddles 91 = .ok (.iload 4, 2) := by decide +kernel
theorem dX0_tryNewRiddles_93 : decode cX0_tryNewRiddles 93 = .ok (.ifCond .eq 45, 3) := by decide +kernel
theorem dX0_tryNewRiddles_96 : decode cX0_tryNewRiddles 96 = .ok (.aload_n 0, 1) := by decide +kernel
theorem dX0_tryNewRiddles_97 : decode cX0_tryNewRiddles 97 = .ok (.aload_n 1, 1) := by decide +kernel
theorem dX0_tryNewRiddles_98 : decode cX0_tryNewRiddles 98 = .ok (.iload 5, 2) := by decide +kernel
theorem dX0_tryNewRiddles_100 : decode cX0_tryNewRiddles 100 = .ok (.iload 6, 2) := by decide +kernel
theorem dX0_tryNewRiddles_102 : decode cX0_tryNewRiddles 102 = .ok (.invokevirtual 94, 3) := by decide +kernel
theorem dX0_tryNewRiddles_105 : decode cX0_tryNewRiddles 105 = .ok (.aload_n 1, 1) := by decide +kernel
theorem dX0_tryNewRiddles_106 : decode cX0_tryNewRiddles 106 = .ok (.sipush 20004, 3) := by decide +kernel
theorem dX0_tryNewRiddles_109 : decode cX0_tryNewRiddles 109 = .ok (.invokevirtual 86, 3) := by decide +kernel
theorem dX0_tryNewRiddles_112 : decode cX0_tryNewRiddles 112 = .ok (.aload_n 0, 1) := by decide +kernel
theorem dX0_tryNewRiddles_113 : decode cX0_tryNewRiddles 113 = .ok (.aload_n 1, 1) := by decide +kernel
theorem dX0_tryNewRiddles_114 : decode cX0_tryNewRiddles 114 = .ok (.aload_n 2, 1) := by decide +kernel
theorem dX0_tryNewRiddles_115 : decode cX0_tryNewRiddles 115 = .ok (.sipush 1000, 3) := by decide +kernel
theorem dX0_tryNewRiddles_118 : decode cX0_tryNewRiddles 118 = .ok (.bipush 100, 2) := by decide +kernel
theorem dX0_tryNewRiddles_120 : decode cX0_tryNewRiddles 120 = .ok (.iload 5, 2) := by decide +kernel
theorem dX0_tryNewRiddles_122 : decode cX0_tryNewRiddles 122 = .ok (.imul, 1) := by decide +kernel
theorem dX0_tryNewRiddles_123 : decode cX0_tryNewRiddles 123 = .ok (.iadd, 1) := by decide +kernel
theorem dX0_tryNewRiddles_124 : decode cX0_tryNewRiddles 124 = .ok (.iload 6, 2) := by decide +kernel
theorem dX0_tryNewRiddles_126 : decode cX0_tryNewRiddles 126 = .ok (.iadd, 1) := by decide +kernel
theorem dX0_tryNewRiddles_127 : decode cX0_tryNewRiddles 127 = .ok (.invokevirtual 90, 3) := by decide +kernel
theorem dX0_tryNewRiddles_130 : decode cX0_tryNewRiddles 130 = .ok (.istore 4, 2) := by decide +kernel
theorem dX0_tryNewRiddles_132 : decode cX0_tryNewRiddles 132 = .ok (.iinc 6 1, 3) := by decide +kernel
theorem dX0_tryNewRiddles_135 : decode cX0_tryNewRiddles 135 = .ok (.goto (-51), 3) := by decide +kernel
theorem dX0_tryNewRiddles_138 : decode cX0_tryNewRiddles 138 = .ok (.iinc 5 1, 3) := by decide +kernel
theorem dX0_tryNewRiddles_141 : decode cX0_tryNewRiddles 141 = .ok (.goto (-66), 3) := by decide +kernel
theorem dX0_tryNewRiddles_144 : decode cX0_tryNewRiddles 144 = .ok (.iconst 0, 1) := by decide +kernel
theorem dX0_tryNewRiddles_145 : decode cX0_tryNewRiddles 145 = .ok (.istore 5, 2) := by decide +kernel
theorem dX0_tryNewRiddles_147 : decode cX0_tryNewRiddles 147 = .ok (.iload 5, 2) := by decide +kernel
theorem dX0_tryNewRiddles_149 : decode cX0_tryNewRiddles 149 = .ok (.iload_n 3, 1) := by decide +kernel
theorem dX0_tryNewRiddles_150 : decode cX0_tryNewRiddles 150 = .ok (.if_icmp .ge 66, 3) := by decide +kernel
theorem dX0_tryNewRiddles_153 : decode cX0_tryNewRiddles 153 = .ok (.iconst 2, 1) := by decide +kernel
theorem dX0_tryNewRiddles_154 : decode cX0_tryNewRiddles 154 = .ok (.istore 6, 2) := by decide +kernel
theorem dX0_tryNewRiddles_156 : decode cX0_tryNewRiddles 156 = .ok (.iload 6, 2) := by decide +kernel
theorem dX0_tryNewRiddles_158 : decode cX0_tryNewRiddles 158 = .ok (.bipush 9, 2) := by decide +kernel
theorem dX0_tryNewRiddles_160 : decode cX0_tryNewRiddles 160 = .ok (.if_icmp .gt 50, 3) := by decide +kernel
theorem dX0_tryNewRiddles_163 : decode cX0_tryNewRiddles 163 = .ok (.iload 4, 2) := by decide +kernel
theorem dX0_tryNewRiddles_165 : decode cX0_tryNewRiddles 165 = .ok (.ifCond .eq 45, 3) := by decide +kernel
theorem dX0_tryNewRiddles_168 : decode cX0_tryNewRiddles 168 = .ok (.aload_n 0, 1) := by decide +kernel
theorem dX0_tryNewRiddles_169 : decode cX0_tryNewRiddles 169 = .ok (.aload_n 1, 1) := by decide +kernel
theorem dX0_tryNewRiddles_170 : decode cX0_tryNewRiddles 170 = .ok (.iload 5, 2) := by decide +kernel
theorem dX0_tryNewRiddles_172 : decode cX0_tryNewRiddles 172 = .ok (.iload 6, 2) := by decide +kernel
theorem dX0_tryNewRiddles_174 : decode cX0_tryNewRiddles 174 = .ok (.invokevirtual 94, 3) := by decide +kernel
theorem dX0_tryNewRiddles_177 : decode cX0_tryNewRiddles 177 = .ok (.aload_n 1, 1) := by decide +kernel
theorem dX0_tryNewRiddles_178 : decode cX0_tryNewRiddles 178 = .ok (.sipush 20006, 3) := by decide +kernel
theorem dX0_tryNewRiddles_181 : decode cX0_tryNewRiddles 181 = .ok (.invokevirtual 86, 3) := by decide +kernel
theorem dX0_tryNewRiddles_184 : decode cX0_tryNewRiddles 184 = .ok (.aload_n 0, 1) := by decide +kernel
theorem dX0_tryNewRiddles_185 : decode cX0_tryNewRiddles 185 = .ok (.aload_n 1, 1) := by decide +kernel
theorem dX0_tryNewRiddles_186 : decode cX0_tryNewRiddles 186 = .ok (.aload_n 2, 1) := by decide +kernel
theorem dX0_tryNewRiddles_187 : decode cX0_tryNewRiddles 187 = .ok (.sipush 2000, 3) := by decide +kernel
theorem dX0_tryNewRiddles_190 : decode cX0_tryNewRiddles 190 = .ok (.bipush 100, 2) := by decide +kernel
theorem dX0_tryNewRiddles_192 : decode cX0_tryNewRiddles 192 = .ok (.iload 5, 2) := by decide +kernel
theorem dX0_tryNewRiddles_194 : decode cX0_tryNewRiddles 194 = .ok (.imul, 1) := by decide +kernel
theorem dX0_tryNewRiddles_195 : decode cX0_tryNewRiddles 195 = .ok (.iadd, 1) := by decide +kernel
theorem dX0_tryNewRiddles_196 : decode cX0_tryNewRiddles 196 = .ok (.iload 6, 2) := by decide +kernel
theorem dX0_tryNewRiddles_198 : decode cX0_tryNewRiddles 198 = .ok (.iadd, 1) := by decide +kernel
theorem dX0_tryNewRiddles_199 : decode cX0_tryNewRiddles 199 = .ok (.invokevirtual 90, 3) := by decide +kernel
theorem dX0_tryNewRiddles_202 : decode cX0_tryNewRiddles 202 = .ok (.istore 4, 2) := by decide +kernel
theorem dX0_tryNewRiddles_204 : decode cX0_tryNewRiddles 204 = .ok (.iinc 6 1, 3) := by decide +kernel
theorem dX0_tryNewRiddles_207 : decode cX0_tryNewRiddles 207 = .ok (.goto (-51), 3) := by decide +kernel
theorem dX0_tryNewRiddles_210 : decode cX0_tryNewRiddles 210 = .ok (.iinc 5 1, 3) := by decide +kernel
theorem dX0_tryNewRiddles_213 : decode cX0_tryNewRiddles 213 = .ok (.goto (-66), 3) := by decide +kernel
theorem dX0_tryNewRiddles_216 : decode cX0_tryNewRiddles 216 = .ok (.iload 4, 2) := by decide +kernel
theorem dX0_tryNewRiddles_218 : decode cX0_tryNewRiddles 218 = .ok (.ireturn, 1) := by decide +kernel

set_option maxHeartbeats 4000000 in
set_option maxRecDepth 100000 in
theorem bw1 {o b s f l n : Nat} {kd : mK} {I0 : mI} {J0 : mJ} {P0 : mP} {t : Nat} {T : Nat → Nat} {fp : Int32} {rr : Nat → Int32} {H M : Nat} {un : Bool} {cs : Nat → List Nat} {tx : Nat → List Int32} {e : Lf} {im : Option Lf} {wk : Option (List Nat)} {Q : am_Post} (hz : okZ t T H M cs e) (hH7 : H < 8) (hk : ∀ (z5 : Option Value) (I : mI) (J : mJ) (P : mP), bLp o b s f l n kd I0 J0 P0 I J P t T fp rr H M un cs tx e im wk (bA1 (bR H M un cs e) H M) → Ru yX0_tryNewRiddles.cls cX0_tryNewRiddles 7 (some .boolean) yX0_tryNewRiddles.name 9 (Q) 0 0 72 [some (.ref (o + 47)), some (.ref s), some (.ref l), some (.int (nI H)), some (.int (bz (bA1 (bR H M un cs e) H M).isSome)), z5, none] [] n kd I J P) : ∀ (cnt c : Nat) (I : mI) (J : mJ) (P : mP), c + cnt = M → bLp o b s f l n kd I0 J0 P0 I J P t T fp rr H M un cs tx e im wk (bA1 (bR H M un cs e) H c) → Ru yX0_tryNewRiddles.cls cX0_tryNewRiddles 7 (some .boolean) yX0_tryNewRiddles.name 9 (Q) 0 0 23 [some (.ref (o + 47)), some (.ref s), some (.ref l), some (.int (nI H)), some (.int (bz (bA1 (bR H M un cs e) H c).isSome)), some (.int (nI (c + 1))), none] [] n kd I J P
  | 0, c, I, J, P, hc, hb => by
    obtain ⟨okt, oks, okl⟩ := id hz
    have hM20 : 2 ≤ M ∧ M ≤ 20 := oks.1
    have hof : ofs cs H ≤ 500 := oks.2.2.1
    have hat := hb.1.1.at
    have hSs := hb.1.1.S2
    have hA := hb.1.1.2.2.2.1.2.1
    have ec : c = M := by omega
    subst ec
    refine r_iload dX0_tryNewRiddles_23 rfl ?_
    refine r_aload_n dX0_tryNewRiddles_25 rfl ?_
    refine r_getI dX0_tryNewRiddles_26 fl_X0_80 rfl hSs.1 ?_
    rw [hb.2.2.2.1.1.2.1]
    refine r_icmp_gt (tgt := 72) dX0_tryNewRiddles_29 (by decide) (fun _ => ?_) (fun hz => absurd (show _ from (by rw [nI_ltI (by omega) (by omega)]; omega)) hz)
    exact hk _ I J P hb
  | cnt + 1, c, I, J, P, hc, hb => by
    obtain ⟨okt, oks, okl⟩ := id hz
    have hM20 : 2 ≤ M ∧ M ≤ 20 := oks.1
    have hof : ofs cs H ≤ 500 := oks.2.2.1
    have hat := hb.1.1.at
    have hSs := hb.1.1.S2
    have hA := hb.1.1.2.2.2.1.2.1
    cases hacc : bA1 (bR H M un cs e) H c with
    | none =>
      have hM := bA1_no hacc (cnt + 1)
      rw [hc] at hM
      refine r_iload dX0_tryNewRiddles_23 rfl ?_
      refine r_aload_n dX0_tryNewRiddles_25 rfl ?_
      refine r_getI dX0_tryNewRiddles_26 fl_X0_80 rfl hSs.1 ?_
      rw [hb.2.2.2.1.1.2.1]
      refine r_icmp_gt (tgt := 72) dX0_tryNewRiddles_29 (by decide) (fun hz => absurd hz (show ¬ _ from (by rw [nI_ltI (by omega) (by omega)]; omega))) (fun _ => ?_)
      refine r_iload dX0_tryNewRiddles_32 rfl ?_
      refine r_if_eq (tgt := 72) dX0_tryNewRiddles_34 (by decide) (fun _ => ?_) (fun hz => absurd (show _ from rfl) hz)
      have hb2 := bLp.up (fun _ => trivial) (hacc.trans hM.symm) hb
      have hkk := hk (some (.int (nI (c + 1)))) I J P hb2
      rw [hM] at hkk
      exact hkk
    | some gv =>
      obtain ⟨g, v⟩ := gv
      rw [hacc] at hb
      refine r_iload dX0_tryNewRiddles_23 rfl ?_
      refine r_aload_n dX0_tryNewRiddles_25 rfl ?_
      refine r_getI dX0_tryNewRiddles_26 fl_X0_80 rfl hSs.1 ?_
      rw [hb.2.2.2.1.1.2.1]
      refine r_icmp_gt (tgt := 72) dX0_tryNewRiddles_29 (by decide) (fun hz => absurd hz (show ¬ _ from (by rw [nI_ltI (by omega) (by omega)]; omega))) (fun _ => ?_)
      refine r_iload dX0_tryNewRiddles_32 rfl ?_
      refine r_if_eq (tgt := 72) dX0_tryNewRiddles_34 (by decide) (fun hz => absurd hz (show ¬ _ from (fun q => absurd (show bz true = 0 from q) (by decide)))) (fun _ => ?_)
      refine r_aload_n dX0_tryNewRiddles_37 rfl ?_
      refine r_virt (kc2 := 0) (ks2 := 0) (c_begP hSs hH7 hb.2.2.2.1) lk_X0_83 mc_X7_beginRiddle dX0_tryNewRiddles_38 hSs.1 (by decide) rfl rfl (Nat.le_of_ble_eq_true rfl) (by decide) (by decide) (fun _ _ _ _ _ _ h => nomatch h.1) ?_
      rintro v5 n1 kd1 I5 J1 P1 ⟨h00, rfl, rfl, rfl, rfl, hf5, hp5⟩
      cases h00
      simp only [Option.toList, List.nil_append]
      refine r_aload_n dX0_tryNewRiddles_41 rfl ?_
      refine r_sipush (v := nI 10000) dX0_tryNewRiddles_42 (by decide) ?_
      refine r_iload_n dX0_tryNewRiddles_45 rfl ?_
      refine r_iadd dX0_tryNewRiddles_46 ?_
      rw [nI_add]
      refine r_virt (kc2 := 0) (ks2 := 0) (c_codeP (10000 + H) hSs hH7 (by show ofs cs H + 0 < 520; omega) (by omega) (by omega) hp5) lk_X0_86 mc_X7_addCode dX0_tryNewRiddles_47 hSs.1 (by decide) rfl rfl (Nat.le_of_ble_eq_true rfl) (by decide) (by decide) (fun _ _ _ _ _ _ h => nomatch h.1) ?_
      rintro v6 n1 kd1 I6 J1 P1 ⟨h00, rfl, rfl, rfl, rfl, hf6, hp6⟩
      cases h00
      simp only [Option.toList, List.nil_append]
      refine r_aload_n dX0_tryNewRiddles_50 rfl ?_
      refine r_iload dX0_tryNewRiddles_51 rfl ?_
      refine r_virt (kc2 := 0) (ks2 := 0) (c_codeP (c + 1) hSs hH7 (by show ofs cs H + 1 < 520; omega) (by omega) (by omega) hp6) lk_X0_86 mc_X7_addCode dX0_tryNewRiddles_53 hSs.1 (by decide) rfl rfl (Nat.le_of_ble_eq_true rfl) (by decide) (by decide) (fun _ _ _ _ _ _ h => nomatch h.1) ?_
      rintro v7 n1 kd1 I7 J1 P1 ⟨h00, rfl, rfl, rfl, rfl, hf7, hp7⟩
      cases h00
      simp only [Option.toList, List.nil_append]
      refine r_aload_n dX0_tryNewRiddles_56 rfl ?_
      refine r_aload_n dX0_tryNewRiddles_57 rfl ?_
      refine r_aload_n dX0_tryNewRiddles_58 rfl ?_
      refine r_iload dX0_tryNewRiddles_59 rfl ?_
      refine r_virt (kc2 := 0) (ks2 := 0) (c_countQ o b s f l [10000 + H, c + 1] (nr1 H (c + 1)) g v (nI (c + 1)) hz hH7 hb (I2 := I7) (fun a ha => by rw [hf7 a ha, hf6 a ha, hf5 a ha]) hp7 rfl (by show 2 ≤ 4; decide) (nr1_ok (by omega) (by omega)) (nr1_no (by omega) (by omega))) lk_X0_90 mc_X0_countRiddle dX0_tryNewRiddles_61 hA.1 (by decide) rfl rfl (Nat.le_of_ble_eq_true rfl) (by decide) (by decide) (fun _ _ _ _ _ _ h => nomatch h.1) ?_
      rintro v9 n1 kd1 I9 J9 P9 ⟨h00, rfl, rfl, hb9⟩
      cases h00
      simp only [Option.toList, List.nil_append, List.cons_append]
      refine r_istore dX0_tryNewRiddles_64 (by decide) ?_
      refine r_iinc (v := nI (c + 1 + 1)) dX0_tryNewRiddles_66 rfl (nI_inc (c + 1)) ?_
      refine r_goto (tgt := 23) dX0_tryNewRiddles_69 (by decide) ?_
      rw [show bSt (some (g, v)) ((bR H M un cs e) (nr1 H (c + 1))) (nI (c + 1)) = bA1 (bR H M un cs e) H (c + 1) from by show _ = bSt (bA1 (bR H M un cs e) H c) _ _; rw [hacc]] at hb9 ⊢
      exact bw1 hz hH7 hk cnt (c + 1) I9 J9 P9 (by omega) hb9

set_option maxHeartbeats 4000000 in
set_option maxRecDepth 100000 in
theorem bw2i {o b s f l n : Nat} {kd : mK} {I0 : mI} {J0 : mJ} {P0 : mP} {t : Nat} {T : Nat → Nat} {fp : Int32} {rr : Nat → Int32} {H M : Nat} {un : Bool} {cs : Nat → List Nat} {tx : Nat → List Int32} {e : Lf} {im : Option Lf} {wk : Option (List Nat)} {Q : am_Post} {acc : Option (Int32 × Int32)} {k : Nat} (hz : okZ t T H M cs e) (hH7 : H < 8) (hkH : k < H) (hk : ∀ (z6 : Option Value) (I : mI) (J : mJ) (P : mP), bLp o b s f l n kd I0 J0 P0 I J P t T fp rr H M un cs tx e im wk (bA2 (bR H M un cs e) H 20004 1000 0 k acc 10) → Ru yX0_tryNewRiddles.cls cX0_tryNewRiddles 7 (some .boolean) yX0_tryNewRiddles.name 9 (Q) 0 0 138 [some (.ref (o + 47)), some (.ref s), some (.ref l), some (.int (nI H)), some (.int (bz (bA2 (bR H M un cs e) H 20004 1000 0 k acc 10).isSome)), some (.int (nI k)), z6] [] n kd I J P) : ∀ (cnt j : Nat) (I : mI) (J : mJ) (P : mP), j + cnt = 10 → bLp o b s f l n kd I0 J0 P0 I J P t T fp rr H M un cs tx e im wk (bA2 (bR H M un cs e) H 20004 1000 0 k acc j) → Ru yX0_tryNewRiddles.cls cX0_tryNewRiddles 7 (some .boolean) yX0_tryNewRiddles.name 9 (Q) 0 0 84 [some (.ref (o + 47)), some (.ref s), some (.ref l), some (.int (nI H)), some (.int (bz (bA2 (bR H M un cs e) H 20004 1000 0 k acc j).isSome)), some (.int (nI k)), some (.int (nI (0 + j)))] [] n kd I J P
  | 0, j, I, J, P, hc, hb => by
    have ej : j = 10 := by omega
    subst ej
    refine r_iload dX0_tryNewRiddles_84 rfl ?_
    refine r_bipush (v := nI 9) dX0_tryNewRiddles_86 (by decide) ?_
    refine r_icmp_gt (tgt := 138) dX0_tryNewRiddles_88 (by decide) (fun _ => ?_) (fun hz => absurd (show _ from (by decide)) hz)
    exact hk _ I J P hb
  | cnt + 1, j, I, J, P, hc, hb => by
    obtain ⟨okt, oks, okl⟩ := id hz
    have hM20 : 2 ≤ M ∧ M ≤ 20 := oks.1
    have hof : ofs cs H ≤ 500 := oks.2.2.1
    have hat := hb.1.1.at
    have hSs := hb.1.1.S2
    have hA := hb.1.1.2.2.2.1.2.1
    cases hacc : bA2 (bR H M un cs e) H 20004 1000 0 k acc j with
    | none =>
      have hM := bA2_no hacc (cnt + 1)
      rw [hc] at hM
      refine r_iload dX0_tryNewRiddles_84 rfl ?_
      refine r_bipush (v := nI 9) dX0_tryNewRiddles_86 (by decide) ?_
      refine r_icmp_gt (tgt := 138) dX0_tryNewRiddles_88 (by decide) (fun hz => absurd hz (show ¬ _ from (by rw [nI_ltI (by omega) (by omega)]; omega))) (fun _ => ?_)
      refine r_iload dX0_tryNewRiddles_91 rfl ?_
      refine r_if_eq (tgt := 138) dX0_tryNewRiddles_93 (by decide) (fun _ => ?_) (fun hz => absurd (show _ from rfl) hz)
      have hb2 := bLp.up (fun _ => trivial) (hacc.trans hM.symm) hb
      have hkk := hk (some (.int (nI (0 + j)))) I J P hb2
      rw [hM] at hkk
      exact hkk
    | some gv =>
      obtain ⟨g, v⟩ := gv
      rw [hacc] at hb
      refine r_iload dX0_tryNewRiddles_84 rfl ?_
      refine r_bipush (v := nI 9) dX0_tryNewRiddles_86 (by decide) ?_
      refine r_icmp_gt (tgt := 138) dX0_tryNewRiddles_88 (by decide) (fun hz => absurd hz (show ¬ _ from (by rw [nI_ltI (by omega) (by omega)]; omega))) (fun _ => ?_)
      refine r_iload dX0_tryNewRiddles_91 rfl ?_
      refine r_if_eq (tgt := 138) dX0_tryNewRiddles_93 (by decide) (fun hz => absurd hz (show ¬ _ from (fun q => absurd (show bz true = 0 from q) (by decide)))) (fun _ => ?_)
      refine r_aload_n dX0_tryNewRiddles_96 rfl ?_
      refine r_aload_n dX0_tryNewRiddles_97 rfl ?_
      refine r_iload dX0_tryNewRiddles_98 rfl ?_
      refine r_iload dX0_tryNewRiddles_100 rfl ?_
      refine r_virt (kc2 := 0) (ks2 := 0) (c_twoP (o + 47) k (0 + j) hSs hH7 hof (by omega) (by omega) hb.2.2.2.1) lk_X0_94 mc_X0_beginRiddleOfTwo dX0_tryNewRiddles_102 hA.1 (by decide) rfl rfl (Nat.le_of_ble_eq_true rfl) (by decide) (by decide) (fun _ _ _ _ _ _ h => nomatch h.1) ?_
      rintro v5 n1 kd1 I5 J1 P1 ⟨h00, rfl, rfl, rfl, rfl, hf5, hp5⟩
      cases h00
      simp only [Option.toList, List.nil_append]
      refine r_aload_n dX0_tryNewRiddles_105 rfl ?_
      refine r_sipush (v := nI 20004) dX0_tryNewRiddles_106 (by decide) ?_
      refine r_virt (kc2 := 0) (ks2 := 0) (c_codeP (20004) hSs hH7 (by show ofs cs H + 3 < 520; omega) (by decide) (fun _ q => absurd q (by decide)) hp5) lk_X0_86 mc_X7_addCode dX0_tryNewRiddles_109 hSs.1 (by decide) rfl rfl (Nat.le_of_ble_eq_true rfl) (by decide) (by decide) (fun _ _ _ _ _ _ h => nomatch h.1) ?_
      rintro v6 n1 kd1 I6 J1 P1 ⟨h00, rfl, rfl, rfl, rfl, hf6, hp6⟩
      cases h00
      simp only [Option.toList, List.nil_append]
      refine r_aload_n dX0_tryNewRiddles_112 rfl ?_
      refine r_aload_n dX0_tryNewRiddles_113 rfl ?_
      refine r_aload_n dX0_tryNewRiddles_114 rfl ?_
      refine r_sipush (v := nI 1000) dX0_tryNewRiddles_115 (by decide) ?_
      refine r_bipush (v := nI 100) dX0_tryNewRiddles_118 (by decide) ?_
      refine r_iload dX0_tryNewRiddles_120 rfl ?_
      refine r_imul dX0_tryNewRiddles_122 ?_
      rw [pk_mul]
      refine r_iadd dX0_tryNewRiddles_123 ?_
      rw [nI_add]
      refine r_iload dX0_tryNewRiddles_124 rfl ?_
      refine r_iadd dX0_tryNewRiddles_126 ?_
      rw [nI_add]
      refine r_virt (kc2 := 0) (ks2 := 0) (c_countQ o b s f l [10000 + H, 10000 + k, (0 + j), 20004] (nr2 H k (0 + j) 20004) g v (nI (1000 + 100 * k + (0 + j))) hz hH7 hb (I2 := I6) (fun a ha => by rw [hf6 a ha, hf5 a ha]) hp6 rfl (by show 4 ≤ 4; decide) (nr2_ok (by omega) (by omega) (by omega) (by decide)) (nr2_no (by omega) (by omega) (by omega) (by decide))) lk_X0_90 mc_X0_countRiddle dX0_tryNewRiddles_127 hA.1 (by decide) rfl rfl (Nat.le_of_ble_eq_true rfl) (by decide) (by decide) (fun _ _ _ _ _ _ h => nomatch h.1) ?_
      rintro v9 n1 kd1 I9 J9 P9 ⟨h00, rfl, rfl, hb9⟩
      cases h00
      simp only [Option.toList, List.nil_append, List.cons_append]
      refine r_istore dX0_tryNewRiddles_130 (by decide) ?_
      refine r_iinc (v := nI ((0 + j) + 1)) dX0_tryNewRiddles_132 rfl (nI_inc (0 + j)) ?_
      refine r_goto (tgt := 84) dX0_tryNewRiddles_135 (by decide) ?_
      rw [show bSt (some (g, v)) ((bR H M un cs e) (nr2 H k (0 + j) 20004)) (nI (1000 + 100 * k + (0 + j))) = bA2 (bR H M un cs e) H 20004 1000 0 k acc (j + 1) from by show _ = bSt (bA2 (bR H M un cs e) H 20004 1000 0 k acc j) _ _; rw [hacc]] at hb9 ⊢
      exact bw2i hz hH7 hkH hk cnt (j + 1) I9 J9 P9 (by omega) hb9

set_option maxHeartbeats 4000000 in
set_option maxRecDepth 100000 in
theorem bw2o {o b s f l n : Nat} {kd : mK} {I0 : mI} {J0 : mJ} {P0 : mP} {t : Nat} {T : Nat → Nat} {fp : Int32} {rr : Nat → Int32} {H M : Nat} {un : Bool} {cs : Nat → List Nat} {tx : Nat → List Int32} {e : Lf} {im : Option Lf} {wk : Option (List Nat)} {Q : am_Post} {acc : Option (Int32 × Int32)} (hz : okZ t T H M cs e) (hH7 : H < 8) (hk : ∀ (z5 z6 : Option Value) (I : mI) (J : mJ) (P : mP), bLp o b s f l n kd I0 J0 P0 I J P t T fp rr H M un cs tx e im wk (bA3 (bR H M un cs e) H 20004 1000 0 acc H) → Ru yX0_tryNewRiddles.cls cX0_tryNewRiddles 7 (some .boolean) yX0_tryNewRiddles.name 9 (Q) 0 0 144 [some (.ref (o + 47)), some (.ref s), some (.ref l), some (.int (nI H)), some (.int (bz (bA3 (bR H M un cs e) H 20004 1000 0 acc H).isSome)), z5, z6] [] n kd I J P) : ∀ (c k : Nat) (z6 : Option Value) (I : mI) (J : mJ) (P : mP), k + c = H → bLp o b s f l n kd I0 J0 P0 I J P t T fp rr H M un cs tx e im wk (bA3 (bR H M un cs e) H 20004 1000 0 acc k) → Ru yX0_tryNewRiddles.cls cX0_tryNewRiddles 7 (some .boolean) yX0_tryNewRiddles.name 9 (Q) 0 0 75 [some (.ref (o + 47)), some (.ref s), some (.ref l), some (.int (nI H)), some (.int (bz (bA3 (bR H M un cs e) H 20004 1000 0 acc k).isSome)), some (.int (nI k)), z6] [] n kd I J P
  | 0, k, z6, I, J, P, hc, hb => by
    have ej : k = H := by omega
    subst ej
    refine r_iload dX0_tryNewRiddles_75 rfl ?_
    refine r_iload_n dX0_tryNewRiddles_77 rfl ?_
    refine r_icmp_ge (tgt := 144) dX0_tryNewRiddles_78 (by decide) (fun _ => ?_) (fun hz => absurd (show _ from (Int32.le_refl _)) hz)
    exact hk _ _ I J P hb
  | c + 1, k, z6, I, J, P, hc, hb => by
    refine r_iload dX0_tryNewRiddles_75 rfl ?_
    refine r_iload_n dX0_tryNewRiddles_77 rfl ?_
    refine r_icmp_ge (tgt := 144) dX0_tryNewRiddles_78 (by decide) (fun hz => absurd hz (show ¬ _ from (by rw [nI_leI (by omega) (by omega)]; omega))) (fun _ => ?_)
    refine r_iconst (v := nI 0) dX0_tryNewRiddles_81 (by decide) ?_
    refine r_istore dX0_tryNewRiddles_82 (by decide) ?_
    exact bw2i (acc := bA3 (bR H M un cs e) H 20004 1000 0 acc k) hz hH7 (by omega) (fun z6 I J P hb => by
      refine r_iinc (v := nI (k + 1)) dX0_tryNewRiddles_138 rfl (nI_inc k) ?_
      refine r_goto (tgt := 75) dX0_tryNewRiddles_141 (by decide) ?_
      exact bw2o hz hH7 hk c (k + 1) z6 I J P (by omega) hb) 10 0 I J P (by omega) hb

set_option maxHeartbeats 4000000 in
set_option maxRecDepth 100000 in
theorem bw3i {o b s f l n : Nat} {kd : mK} {I0 : mI} {J0 : mJ} {P0 : mP} {t : Nat} {T : Nat → Nat} {fp : Int32} {rr : Nat → Int32} {H M : Nat} {un : Bool} {cs : Nat → List Nat} {tx : Nat → List Int32} {e : Lf} {im : Option Lf} {wk : Option (List Nat)} {Q : am_Post} {acc : Option (Int32 × Int32)} {k : Nat} (hz : okZ t T H M cs e) (hH7 : H < 8) (hkH : k < H) (hk : ∀ (z6 : Option Value) (I : mI) (J : mJ) (P : mP), bLp o b s f l n kd I0 J0 P0 I J P t T fp rr H M un cs tx e im wk (bA2 (bR H M un cs e) H 20006 2000 2 k acc 8) → Ru yX0_tryNewRiddles.cls cX0_tryNewRiddles 7 (some .boolean) yX0_tryNewRiddles.name 9 (Q) 0 0 210 [some (.ref (o + 47)), some (.ref s), some (.ref l), some (.int (nI H)), some (.int (bz (bA2 (bR H M un cs e) H 20006 2000 2 k acc 8).isSome)), some (.int (nI k)), z6] [] n kd I J P) : ∀ (cnt j : Nat) (I : mI) (J : mJ) (P : mP), j + cnt = 8 → bLp o b s f l n kd I0 J0 P0 I J P t T fp rr H M un cs tx e im wk (bA2 (bR H M un cs e) H 20006 2000 2 k acc j) → Ru yX0_tryNewRiddles.cls cX0_tryNewRiddles 7 (some .boolean) yX0_tryNewRiddles.name 9 (Q) 0 0 156 [some (.ref (o + 47)), some (.ref s), some (.ref l), some (.int (nI H)), some (.int (bz (bA2 (bR H M un cs e) H 20006 2000 2 k acc j).isSome)), some (.int (nI k)), some (.int (nI (2 + j)))] [] n kd I J P
  | 0, j, I, J, P, hc, hb => by
    have ej : j = 8 := by omega
    subst ej
    refine r_iload dX0_tryNewRiddles_156 rfl ?_
    refine r_bipush (v := nI 9) dX0_tryNewRiddles_158 (by decide) ?_
    refine r_icmp_gt (tgt := 210) dX0_tryNewRiddles_160 (by decide) (fun _ => ?_) (fun hz => absurd (show _ from (by decide)) hz)
    exact hk _ I J P hb
  | cnt + 1, j, I, J, P, hc, hb => by
    obtain ⟨okt, oks, okl⟩ := id hz
    have hM20 : 2 ≤ M ∧ M ≤ 20 := oks.1
    have hof : ofs cs H ≤ 500 := oks.2.2.1
    have hat := hb.1.1.at
    have hSs := hb.1.1.S2
    have hA := hb.1.1.2.2.2.1.2.1
    cases hacc : bA2 (bR H M un cs e) H 20006 2000 2 k acc j with
    | none =>
      have hM := bA2_no hacc (cnt + 1)
      rw [hc] at hM
      refine r_iload dX0_tryNewRiddles_156 rfl ?_
      refine r_bipush (v := nI 9) dX0_tryNewRiddles_158 (by decide) ?_
      refine r_icmp_gt (tgt := 210) dX0_tryNewRiddles_160 (by decide) (fun hz => absurd hz (show ¬ _ from (by rw [nI_ltI (by omega) (by omega)]; omega))) (fun _ => ?_)
      refine r_iload dX0_tryNewRiddles_163 rfl ?_
      refine r_if_eq (tgt := 210) dX0_tryNewRiddles_165 (by decide) (fun _ => ?_) (fun hz => absurd (show _ from rfl) hz)
      have hb2 := bLp.up (fun _ => trivial) (hacc.trans hM.symm) hb
      have hkk := hk (some (.int (nI (2 + j)))) I J P hb2
      rw [hM] at hkk
      exact hkk
    | some gv =>
      obtain ⟨g, v⟩ := gv
      rw [hacc] at hb
      refine r_iload dX0_tryNewRiddles_156 rfl ?_
      refine r_bipush (v := nI 9) dX0_tryNewRiddles_158 (by decide) ?_
      refine r_icmp_gt (tgt := 210) dX0_tryNewRiddles_160 (by decide) (fun hz => absurd hz (show ¬ _ from (by rw [nI_ltI (by omega) (by omega)]; omega))) (fun _ => ?_)
      refine r_iload dX0_tryNewRiddles_163 rfl ?_
      refine r_if_eq (tgt := 210) dX0_tryNewRiddles_165 (by decide) (fun hz => absurd hz (show ¬ _ from (fun q => absurd (show bz true = 0 from q) (by decide)))) (fun _ => ?_)
      refine r_aload_n dX0_tryNewRiddles_168 rfl ?_
      refine r_aload_n dX0_tryNewRiddles_169 rfl ?_
      refine r_iload dX0_tryNewRiddles_170 rfl ?_
      refine r_iload dX0_tryNewRiddles_172 rfl ?_
      refine r_virt (kc2 := 0) (ks2 := 0) (c_twoP (o + 47) k (2 + j) hSs hH7 hof (by omega) (by omega) hb.2.2.2.1) lk_X0_94 mc_X0_beginRiddleOfTwo dX0_tryNewRiddles_174 hA.1 (by decide) rfl rfl (Nat.le_of_ble_eq_true rfl) (by decide) (by decide) (fun _ _ _ _ _ _ h => nomatch h.1) ?_
      rintro v5 n1 kd1 I5 J1 P1 ⟨h00, rfl, rfl, rfl, rfl, hf5, hp5⟩
      cases h00
      simp only [Option.toList, List.nil_append]
      refine r_aload_n dX0_tryNewRiddles_177 rfl ?_
      refine r_sipush (v := nI 20006) dX0_tryNewRiddles_178 (by decide) ?_
      refine r_virt (kc2 := 0) (ks2 := 0) (c_codeP (20006) hSs hH7 (by show ofs cs H + 3 < 520; omega) (by decide) (fun _ q => absurd q (by decide)) hp5) lk_X0_86 mc_X7_addCode dX0_tryNewRiddles_181 hSs.1 (by decide) rfl rfl (Nat.le_of_ble_eq_true rfl) (by decide) (by decide) (fun _ _ _ _ _ _ h => nomatch h.1) ?_
      rintro v6 n1 kd1 I6 J1 P1 ⟨h00, rfl, rfl, rfl, rfl, hf6, hp6⟩
      cases h00
      simp only [Option.toList, List.nil_append]
      refine r_aload_n dX0_tryNewRiddles_184 rfl ?_
      refine r_aload_n dX0_tryNewRiddles_185 rfl ?_
      refine r_aload_n dX0_tryNewRiddles_186 rfl ?_
      refine r_sipush (v := nI 2000) dX0_tryNewRiddles_187 (by decide) ?_
      refine r_bipush (v := nI 100) dX0_tryNewRiddles_190 (by decide) ?_
      refine r_iload dX0_tryNewRiddles_192 rfl ?_
      refine r_imul dX0_tryNewRiddles_194 ?_
      rw [pk_mul]
      refine r_iadd dX0_tryNewRiddles_195 ?_
      rw [nI_add]
      refine r_iload dX0_tryNewRiddles_196 rfl ?_
      refine r_iadd dX0_tryNewRiddles_198 ?_
      rw [nI_add]
      refine r_virt (kc2 := 0) (ks2 := 0) (c_countQ o b s f l [10000 + H, 10000 + k, (2 + j), 20006] (nr2 H k (2 + j) 20006) g v (nI (2000 + 100 * k + (2 + j))) hz hH7 hb (I2 := I6) (fun a ha => by rw [hf6 a ha, hf5 a ha]) hp6 rfl (by show 4 ≤ 4; decide) (nr2_ok (by omega) (by omega) (by omega) (by decide)) (nr2_no (by omega) (by omega) (by omega) (by decide))) lk_X0_90 mc_X0_countRiddle dX0_tryNewRiddles_199 hA.1 (by decide) rfl rfl (Nat.le_of_ble_eq_true rfl) (by decide) (by decide) (fun _ _ _ _ _ _ h => nomatch h.1) ?_
      rintro v9 n1 kd1 I9 J9 P9 ⟨h00, rfl, rfl, hb9⟩
      cases h00
      simp only [Option.toList, List.nil_append, List.cons_append]
      refine r_istore dX0_tryNewRiddles_202 (by decide) ?_
      refine r_iinc (v := nI ((2 + j) + 1)) dX0_tryNewRiddles_204 rfl (nI_inc (2 + j)) ?_
      refine r_goto (tgt := 156) dX0_tryNewRiddles_207 (by decide) ?_
      rw [show bSt (some (g, v)) ((bR H M un cs e) (nr2 H k (2 + j) 20006)) (nI (2000 + 100 * k + (2 + j))) = bA2 (bR H M un cs e) H 20006 2000 2 k acc (j + 1) from by show _ = bSt (bA2 (bR H M un cs e) H 20006 2000 2 k acc j) _ _; rw [hacc]] at hb9 ⊢
      exact bw3i hz hH7 hkH hk cnt (j + 1) I9 J9 P9 (by omega) hb9

set_option maxHeartbeats 4000000 in
set_option maxRecDepth 100000 in
theorem bw3o {o b s f l n : Nat} {kd : mK} {I0 : mI} {J0 : mJ} {P0 : mP} {t : Nat} {T : Nat → Nat} {fp : Int32} {rr : Nat → Int32} {H M : Nat} {un : Bool} {cs : Nat → List Nat} {tx : Nat → List Int32} {e : Lf} {im : Option Lf} {wk : Option (List Nat)} {Q : am_Post} {acc : Option (Int32 × Int32)} (hz : okZ t T H M cs e) (hH7 : H < 8) (hk : ∀ (z5 z6 : Option Value) (I : mI) (J : mJ) (P : mP), bLp o b s f l n kd I0 J0 P0 I J P t T fp rr H M un cs tx e im wk (bA3 (bR H M un cs e) H 20006 2000 2 acc H) → Ru yX0_tryNewRiddles.cls cX0_tryNewRiddles 7 (some .boolean) yX0_tryNewRiddles.name 9 (Q) 0 0 216 [some (.ref (o + 47)), some (.ref s), some (.ref l), some (.int (nI H)), some (.int (bz (bA3 (bR H M un cs e) H 20006 2000 2 acc H).isSome)), z5, z6] [] n kd I J P) : ∀ (c k : Nat) (z6 : Option Value) (I : mI) (J : mJ) (P : mP), k + c = H → bLp o b s f l n kd I0 J0 P0 I J P t T fp rr H M un cs tx e im wk (bA3 (bR H M un cs e) H 20006 2000 2 acc k) → Ru yX0_tryNewRiddles.cls cX0_tryNewRiddles 7 (some .boolean) yX0_tryNewRiddles.name 9 (Q) 0 0 147 [some (.ref (o + 47)), some (.ref s), some (.ref l), some (.int (nI H)), some (.int (bz (bA3 (bR H M un cs e) H 20006 2000 2 acc k).isSome)), some (.int (nI k)), z6] [] n kd I J P
  | 0, k, z6, I, J, P, hc, hb => by
    have ej : k = H := by omega
    subst ej
    refine r_iload dX0_tryNewRiddles_147 rfl ?_
    refine r_iload_n dX0_tryNewRiddles_149 rfl ?_
    refine r_icmp_ge (tgt := 216) dX0_tryNewRiddles_150 (by decide) (fun _ => ?_) (fun hz => absurd (show _ from (Int32.le_refl _)) hz)
    exact hk _ _ I J P hb
  | c + 1, k, z6, I, J, P, hc, hb => by
    refine r_iload dX0_tryNewRiddles_147 rfl ?_
    refine r_iload_n dX0_tryNewRiddles_149 rfl ?_
    refine r_icmp_ge (tgt := 216) dX0_tryNewRiddles_150 (by decide) (fun hz => absurd hz (show ¬ _ from (by rw [nI_leI (by omega) (by omega)]; omega))) (fun _ => ?_)
    refine r_iconst (v := nI 2) dX0_tryNewRiddles_153 (by decide) ?_
    refine r_istore dX0_tryNewRiddles_154 (by decide) ?_
    exact bw3i (acc := bA3 (bR H M un cs e) H 20006 2000 2 acc k) hz hH7 (by omega) (fun z6 I J P hb => by
      refine r_iinc (v := nI (k + 1)) dX0_tryNewRiddles_210 rfl (nI_inc k) ?_
      refine r_goto (tgt := 147) dX0_tryNewRiddles_213 (by decide) ?_
      exact bw3o hz hH7 hk c (k + 1) z6 I J P (by omega) hb) 8 0 I J P (by omega) hb

set_option maxHeartbeats 4000000 in
set_option maxRecDepth 100000 in
theorem c_tryNewN (o b s f l : Nat) {I0 : mI} {J0 : mJ} {P0 : mP} {t : Nat} {T : Nat → Nat} {fp : Int32} {rr : Nat → Int32} {H M : Nat} {un : Bool} {cs : Nat → List Nat} {tx : Nat → List Int32} {e : Lf} {im : Option Lf} {wk : Option (List Nat)} {n : Nat} {kd : mK} {I : mI} {J : mJ} {P : mP} (hC : CR o b s f l n kd I J P t T fp rr H M un cs tx e im wk) (hz : okZ t T H M cs e) (hB : Bs o I0 I J0 J P0 P) (hcl : cL I l H e) (hH7 : H < 8) (hn : nwS I s H M un cs) : Ct yX0_tryNewRiddles cX0_tryNewRiddles 7 (some .boolean) 9 0 0 [.ref (o + 47), .ref s, .ref l] n kd I J P (fun z n' kd' I' J' P' => z = .inl (some (.int (bz (bAll (bR H M un cs e) H M).isSome))) ∧ n' = n ∧ kd' = kd ∧ bLp o b s f l n kd I0 J0 P0 I' J' P' t T fp rr H M un cs tx e im wk (bAll (bR H M un cs e) H M)) := by
  have hX := hC.1
  have hSs := hX.S2
  have hat := hX.at
  have hA := hX.2.2.2.1.2.1
  refine ct_of 4 (by decide +kernel) (Nat.le_of_ble_eq_true rfl) rfl ?_
  refine r_aload_n dX0_tryNewRiddles_0 rfl ?_
  refine r_getI dX0_tryNewRiddles_1 fl_X0_77 rfl hSs.1 ?_
  rw [hn.1.1]
  refine r_iconst (v := nI 1) dX0_tryNewRiddles_4 (by decide) ?_
  refine r_isub dX0_tryNewRiddles_5 ?_
  rw [pk_sub (by omega), show H + 1 - 1 = H by omega]
  refine r_istore_n dX0_tryNewRiddles_6 (by decide) ?_
  refine r_aload_n dX0_tryNewRiddles_7 rfl ?_
  refine r_iconst (v := nI 0) dX0_tryNewRiddles_8 (by decide) ?_
  refine r_putI dX0_tryNewRiddles_9 fl_X0_25 rfl rfl hA.1 ?_
  refine r_aload_n dX0_tryNewRiddles_12 rfl ?_
  refine r_iconst (v := (-1)) dX0_tryNewRiddles_13 (by decide) ?_
  refine r_putI dX0_tryNewRiddles_14 fl_X0_29 rfl rfl hA.1 ?_
  rw [am_up_s, am_up_up]
  refine r_iconst (v := nI 1) dX0_tryNewRiddles_17 (by decide) ?_
  refine r_istore dX0_tryNewRiddles_18 (by decide) ?_
  refine r_iconst (v := nI 1) dX0_tryNewRiddles_20 (by decide) ?_
  refine r_istore dX0_tryNewRiddles_21 (by decide) ?_
  exact bw1 (Q := fun z n' kd' I' J' P' => z = .inl (some (.int (bz (bAll (bR H M un cs e) H M).isSome))) ∧ n' = n ∧ kd' = kd ∧ bLp o b s f l n kd I0 J0 P0 I' J' P' t T fp rr H M un cs tx e im wk (bAll (bR H M un cs e) H M)) hz hH7 (fun z5 I J P hb => by
    refine r_iconst (v := nI 0) dX0_tryNewRiddles_72 (by decide) ?_
    refine r_istore dX0_tryNewRiddles_73 (by decide) ?_
    exact bw2o (Q := fun z n' kd' I' J' P' => z = .inl (some (.int (bz (bAll (bR H M un cs e) H M).isSome))) ∧ n' = n ∧ kd' = kd ∧ bLp o b s f l n kd I0 J0 P0 I' J' P' t T fp rr H M un cs tx e im wk (bAll (bR H M un cs e) H M)) hz hH7 (fun z5 z6 I J P hb => by
      refine r_iconst (v := nI 0) dX0_tryNewRiddles_144 (by decide) ?_
      refine r_istore dX0_tryNewRiddles_145 (by decide) ?_
      exact bw3o (Q := fun z n' kd' I' J' P' => z = .inl (some (.int (bz (bAll (bR H M un cs e) H M).isSome))) ∧ n' = n ∧ kd' = kd ∧ bLp o b s f l n kd I0 J0 P0 I' J' P' t T fp rr H M un cs tx e im wk (bAll (bR H M un cs e) H M)) hz hH7 (fun z5 z6 I J P hb => by
        have hz01 : bz (bA3 (bR H M un cs e) H 20006 2000 2 (bA3 (bR H M un cs e) H 20004 1000 0 (bA1 (bR H M un cs e) H M) H) H).isSome = 0 ∨ bz (bA3 (bR H M un cs e) H 20006 2000 2 (bA3 (bR H M un cs e) H 20004 1000 0 (bA1 (bR H M un cs e) H M) H) H).isSome = nI 1 := by
          cases (bA3 (bR H M un cs e) H 20006 2000 2 (bA3 (bR H M un cs e) H 20004 1000 0 (bA1 (bR H M un cs e) H M) H) H).isSome
          · exact Or.inl rfl
          · exact Or.inr rfl
        refine r_iload dX0_tryNewRiddles_216 rfl ?_
        refine r_zret rfl dX0_tryNewRiddles_218 (by first | exact Or.inl rfl | exact Or.inr rfl | assumption) ?_
        exact ⟨rfl, rfl, rfl, hb⟩) H 0 z6 I J P (by omega) hb) H 0 none I J P (by omega) hb) M 0 _ J P (by omega) ⟨hC.up (x := o + 47) (by omega), hB.up (by omega), hcl.cg (fun a a1 a2 => am_up_n _ _ (by omega)), hn.cg (fun a a1 a2 => am_up_n _ _ (by omega)), by rw [am_up_s, am_up_n _ _ (by decide), am_up_s], by rw [am_up_s, am_up_s]⟩


/-! STREET: the reference reads a value -/
/-- tokens, and how the one follows the other -/
def tkA (T : RT) : Prop := tkG T ∧ (∀ i, i + 1 < T.2.1 → nxT T.2.2.2.2.2 T.1 (T.2.2.2.2.1 i) = tkAt T (i + 1)) ∧ ∀ i, i < T.2.1 → T.2.2.2.2.1 i ≤ T.1
theorem nO_nI {k : Nat} (h : k < 2 ^ 31) : nO (nI k) = k := by
  have h2 : nO (nI k) < 2 ^ 32 := (nI k).toBitVec.isLt
  unfold nO
  show (BitVec.ofNat 32 k).toNat = k
  rw [BitVec.toNat_ofNat]
  omega
theorem nO_le {v : Int32} {K : Nat} (hK : K < 2 ^ 31) (h1 : ¬ v < nI 0) (h2 : ¬ nI K < v) : nO v ≤ K ∧ v = nI (nO v) := by
  have hx := nO_eq v
  have hl : nO v < 2 ^ 32 := v.toBitVec.isLt
  have e : v.toInt = if 2 * nO v < 2 ^ 32 then (nO v : Int) else (nO v : Int) - (2 ^ 32 : Nat) := BitVec.toInt_eq_toNat_cond v.toBitVec
  have g1 : (nI 0).toInt ≤ v.toInt := Int32.le_iff_toInt_le.mp (Int32.not_lt.mp h1)
  have g2 : v.toInt ≤ (nI K).toInt := Int32.le_iff_toInt_le.mp (Int32.not_lt.mp h2)
  have e1 : (nI 0).toInt = 0 := by decide
  have e3 : (nI K).toInt = if 2 * nO (nI K) < 2 ^ 32 then (nO (nI K) : Int) else (nO (nI K) : Int) - (2 ^ 32 : Nat) := BitVec.toInt_eq_toNat_cond (nI K).toBitVec
  rw [nO_nI (by omega), if_pos (by omega)] at e3
  rw [e1, e] at g1
  rw [e3, e] at g2
  refine ⟨?_, hx.symm⟩
  split at g1 <;> split at g2 <;> omega
theorem lkm_256 {out : List Nat} {a : Nat} (ha : a < 10000) : nI (lkm 0 (out ++ [10000 + a]) % 256) = if a < 8 then nI (lkm 0 out % 256) ||| (nI 1 <<< (nI a &&& 31)) else nI (lkm 0 out % 256) := by
  rw [lkm_app, if_pos (by omega), show 10000 + a - 10000 = a by omega]
  by_cases c : a < 8
  · rw [if_pos c, or_sh2 (by omega)]
    congr 1
    refine Nat.eq_of_testBit_eq (fun i => ?_)
    rw [show 256 = 2 ^ 8 from rfl, Nat.testBit_mod_two_pow, Nat.testBit_or, Nat.testBit_or, Nat.testBit_mod_two_pow, Nat.testBit_two_pow]
    by_cases q : i < 8
    · rw [decide_eq_true q, Bool.true_and, Bool.true_and]
    · rw [decide_eq_false q, Bool.false_and, Bool.false_and, Bool.false_or, decide_eq_false (by omega)]
  · rw [if_neg c]
    congr 1
    refine Nat.eq_of_testBit_eq (fun i => ?_)
    rw [show 256 = 2 ^ 8 from rfl, Nat.testBit_mod_two_pow, Nat.testBit_or, Nat.testBit_mod_two_pow, Nat.testBit_two_pow]
    by_cases q : i < 8
    · rw [decide_eq_true q, decide_eq_false (show ¬ a = i by omega), Bool.or_false]
    · rw [decide_eq_false q, Bool.false_and, Bool.false_and]
theorem lkm_n {out : List Nat} {c : Nat} (hc : ¬ (10000 ≤ c ∧ c < 20000)) : lkm 0 (out ++ [c]) = lkm 0 out := by rw [lkm_app, if_neg hc]
theorem wrI_g {m : Nat} {f : Int32} {I : mI} (h : I m 16 = nI 0) : wrI m f I = va_up I m (va_up (va_up (I m) 16 f) 17 (I m 22)) := if_pos h
theorem eFr.wr {m : Nat} {f : Int32} {I : mI} {J : mJ} (hf : ¬ f = nI 0 := by decide) : eFr m I (wrI m f I) J J := by
  unfold wrI
  split
  · exact ⟨fun a h1 h2 h3 h4 => am_up_n _ _ h1, fun j h1 h2 h3 h4 => by rw [am_up_s, am_up_n _ _ h2, am_up_n _ _ h1], fun _ _ => rfl, fun _ _ => rfl, fun z => absurd ((by rw [am_up_s, am_up_n _ _ (by decide), am_up_s] : va_up I m (va_up (va_up (I m) 16 f) 17 (I m 22)) m 16 = f).symm.trans z) hf⟩
  · exact eFr.rf
theorem eFr.pu {m k : Nat} {x : Int32} {I : mI} {J : mJ} : eFr m I (puI m k x I) J J := ⟨fun a h1 h2 h3 h4 => puI_fr.1 a h1 h2, fun j h1 h2 h3 h4 => puI_fr.2 j (by omega) (by omega), fun _ _ => rfl, fun _ _ => rfl, kP.same (puI_fr.2 _ (by decide) (by decide)) (puI_fr.2 _ (by decide) (by decide))⟩
theorem eFr.wa {m k : Nat} {x : Int32} {I : mI} {J : mJ} : eFr m I (waI m k x I) J J := ⟨fun a h1 h2 h3 h4 => waI_a h1 h3, fun j h1 h2 h3 h4 => waI_o (by omega), fun _ _ => rfl, fun _ _ => rfl, kP.same (waI_o (by decide)) (waI_o (by decide))⟩
theorem dFr.e {m : Nat} {I I' : mI} {J : mJ} (h : dFr m I I') : eFr m I I' J J := ⟨fun a h1 h2 h3 h4 => h.1 a h1 h2, fun j h1 h2 h3 h4 => h.2 j (by omega) (by omega), fun _ _ => rfl, fun _ _ => rfl, kP.same (h.2 _ (by decide) (by decide)) (h.2 _ (by decide) (by decide))⟩
/-- a fault set while all was good -/
theorem eG.wrong {m h : Nat} {T : RT} {a0 : Nat} {C0 : Nat → Int32} {sl : Nat} {I : mI} {J : mJ} {i : Nat} {out w : List Nat} {te : Nat → Bool} {f : Nat} (hT : tkA T) (hsl : sl ≤ 10) (h0 : ¬ f = 0) (h4 : f < 4) (hg : eG m h T a0 C0 sl I J i out w te) : eB m T (wrI m (nI f) I) f i := by
  obtain ⟨⟨h16, -, -⟩, ⟨hk, hi⟩, ⟨top, hC, hb⟩, -, hW, hwi, -⟩ := hg
  have h501 := hT.1.1.1
  rw [wrI_g h16]
  refine ⟨by rw [am_up_s, am_up_n _ _ (by decide), am_up_s], ⟨h0, h4⟩, by rw [am_up_s, am_up_s]; exact hk.2.1, top, w.length, ?_, ?_, by omega, by omega⟩
  · rw [am_up_s, am_up_n _ _ (by decide), am_up_n _ _ (by decide)]; exact hC.1
  · rw [am_up_s, am_up_n _ _ (by decide), am_up_n _ _ (by decide)]; exact hW.1
theorem eB.bad {m : Nat} {T : RT} {I : mI} {f j : Nat} (h : eB m T I f j) : decide (I m 16 = 0) = false := by
  rw [h.1, decide_eq_false (fun z => h.2.1.1 ((z_eq (by have := h.2.1.2; omega)).mp z))]
/-- two words put out: a value -/
theorem eG.val {m h : Nat} {T : RT} {a0 : Nat} {C0 : Nat → Int32} {I : mI} {J : mJ} {i top c a b : Nat} {out w : List Nat} {te : Nat → Bool} (hc : c < 20003) (hr : rval c a b) (h1 : I m 16 = nI 0 ∧ I m 27 = nI h ∧ gIn m T.1 T.2.2.2.2.2 I) (h2 : gTk m T.2.2.2.2.2 I J (tkAt T i) ∧ i < T.2.1) (hC : eC m a0 C0 I out top) (hb : top + w.length + 4 ≤ 2 * i) (h29 : I m 29 = nI (lkm 0 (out ++ [c]) % 256)) (hW : eW m I w) (hwi : w.length ≤ i) (hD : eD m I (opens w + 1) te) : eG m h T a0 C0 2 (puI m (top + 1) (nI b) (puI m top (nI a) I)) J i (out ++ [c]) w te := by
  have hf : dFr m I (puI m (top + 1) (nI b) (puI m top (nI a) I)) := puI_fr.tr puI_fr
  refine ⟨⟨(hf.2 _ (by decide) (by decide)).trans h1.1, (hf.2 _ (by decide) (by decide)).trans h1.2.1, ?_⟩, ⟨?_, h2.2⟩, ⟨top + 2, hC.val hc hr, by omega⟩, (hf.2 _ (by decide) (by decide)).trans h29, hW.cg ?_ (hf.1 _ (by omega) (by omega)), hwi, hD.cg (hf.2 _ (by decide) (by decide)) (hf.1 _ (by omega) (by omega))⟩
  · unfold gIn
    rw [hf.2 19 (by decide) (by decide), hf.1 (m + 11) (by omega) (by omega)]
    exact h1.2.2
  · have h2 := h2.1
    unfold gTk kwV at h2 ⊢
    rw [hf.2 20 (by decide) (by decide), hf.2 22 (by decide) (by decide), hf.2 21 (by decide) (by decide), hf.2 23 (by decide) (by decide), hf.2 24 (by decide) (by decide), hf.2 25 (by decide) (by decide)]
    exact h2
  · rw [puI_31, puI_31]
theorem c_goesT (m i : Nat) {T : RT} {n : Nat} {kd : mK} {I : mI} {J : mJ} {P : mP} (hM : kM kd P m) (hT : tkA T) (hg : gIn m T.1 T.2.2.2.2.2 I) (hk : gTk m T.2.2.2.2.2 I J (tkAt T i)) (hi : i + 1 < T.2.1) : Ct yX10_goes cX10_goes 2 none 3 0 0 [.ref m] n kd I J P (fun z n' kd' I' J' P' => z = .inl none ∧ n' = n ∧ kd' = kd ∧ P' = P ∧ gFr m I I' J J' ∧ gTk m T.2.2.2.2.2 I' J' (tkAt T (i + 1))) := by
  rw [← hT.2.1 i hi]
  exact c_goes m T.1 (T.2.2.2.2.1 i) hM hg hk.1 (hT.2.2 i (by omega))
/-- a token more, all else as it was -/
theorem eG.nx {m h : Nat} {T : RT} {a0 : Nat} {C0 : Nat → Int32} {sl sl2 : Nat} {I I' : mI} {J J' : mJ} {i : Nat} {out w : List Nat} {te : Nat → Bool} (hs : sl ≤ sl2 + 2) (hf : gFr m I I' J J') (hk : gTk m T.2.2.2.2.2 I' J' (tkAt T (i + 1))) (hi : i + 1 < T.2.1) (hg : eG m h T a0 C0 sl I J i out w te) : eG m h T a0 C0 sl2 I' J' (i + 1) out w te := by
  obtain ⟨⟨h16, h27, hgi⟩, -, ⟨top, hC, hb⟩, h29, hW, hwi, hD⟩ := hg
  exact ⟨⟨(hf.2.1 _ (by decide)).trans h16, (hf.2.1 _ (by decide)).trans h27, hgi.fr hf⟩, ⟨hk, hi⟩, ⟨top, hC.cg (hf.2.1 _ (by decide)) (hf.1 _ (by omega)), by omega⟩, (hf.2.1 _ (by decide)).trans h29, hW.cg (hf.2.1 _ (by decide)) (hf.1 _ (by omega)), by omega, hD.cg (hf.2.1 _ (by decide)) (hf.1 _ (by omega))⟩
theorem kwI_o {k : Int32} (h0 : ¬ k = nI 136) (h1 : ¬ k = nI 137) (h2 : ¬ k = nI 138) (h3 : ¬ k = nI 139) (h4 : ¬ k = nI 140) (h5 : ¬ k = nI 129) (h6 : ¬ k = nI 141) : kwI k < 0 ∨ nI 6 < kwI k := by
  unfold kwI
  rw [if_neg h0, if_neg h1, if_neg h2, if_neg h3, if_neg h4, if_neg h5, if_neg h6]
  by_cases a : k = nI 130
  · rw [if_pos a]; decide
  rw [if_neg a]
  by_cases b : k = nI 131
  · rw [if_pos b]; decide
  rw [if_neg b]
  by_cases c : k = nI 132
  · rw [if_pos c]; decide
  rw [if_neg c]
  by_cases d : k = nI 134
  · rw [if_pos d]; decide
  rw [if_neg d]
  by_cases e : k = nI 133
  · rw [if_pos e]; decide
  rw [if_neg e]
  by_cases f : k = nI 135
  · rw [if_pos f]; decide
  · rw [if_neg f]; decide
theorem dX10_valueHere_0 : decode cX10_valueHere 0 = .ok (.aload_n 0, 1) := by decide +kernel
theorem dX10_valueHere_1 : decode cX10_valueHere 1 = .ok (.invokevirtual 262, 3) := by decide +kernel
theorem dX10_valueHere_4 : decode cX10_valueHere 4 = .ok (.istore_n 1, 1) := by decide +kernel
theorem dX10_valueHere_5 : decode cX10_valueHere 5 = .ok (.iload_n 1, 1) := by decide +kernel
theorem dX10_valueHere_6 : decode cX10_valueHere 6 = .ok (.ifCond .lt 9, 3) := by decide +kernel
theorem dX10_valueHere_9 : decode cX10_valueHere 9 = .ok (.iload_n 1, 1) := by decide +kernel
theorem dX10_valueHere_10 : decode cX10_valueHere 10 = .ok (.bipush 6, 2) := by decide +kernel
theorem dX10_valueHere_12 : decode cX10_valueHere 12 = .ok (.if_icmp .le 8, 3) := by decide +kernel
theorem dX10_valueHere_15 : decode cX10_valueHere 15 = .ok (.aload_n 0, 1) := by decide +kernel
theorem dX10_valueHere_16 : decode cX10_valueHere 16 = .ok (.iconst 3, 1) := by decide +kernel
theorem dX10_valueHere_17 : decode cX10_valueHere 17 = .ok (.invokevirtual 259, 3) := by decide +kernel
theorem dX10_valueHere_20 : decode cX10_valueHere 20 = .ok (.aload_n 0, 1) := by decide +kernel
theorem dX10_valueHere_21 : decode cX10_valueHere 21 = .ok (.invokevirtual 252, 3) := by decide +kernel
theorem dX10_valueHere_24 : decode cX10_valueHere 24 = .ok (.ifCond .ne 4, 3) := by decide +kernel
theorem dX10_valueHere_27 : decode cX10_valueHere 27 = .ok (.return_, 1) := by decide +kernel
theorem dX10_valueHere_28 : decode cX10_valueHere 28 = .ok (.aload_n 0, 1) := by decide +kernel
theorem dX10_valueHere_29 : decode cX10_valueHere 29 = .ok (.getfield 266, 3) := by decide +kernel
theorem dX10_valueHere_32 : decode cX10_valueHere 32 = .ok (.istore_n 2, 1) := by decide +kernel
theorem dX10_valueHere_33 : decode cX10_valueHere 33 = .ok (.iload_n 1, 1) := by decide +kernel
theorem dX10_valueHere_34 : decode cX10_valueHere 34 = .ok (.bipush 6, 2) := by decide +kernel
theorem dX10_valueHere_36 : decode cX10_valueHere 36 = .ok (.if_icmp .ne 58, 3) := by decide +kernel
theorem dX10_valueHere_39 : decode cX10_valueHere 39 = .ok (.aload_n 0, 1) := by decide +kernel
theorem dX10_valueHere_40 : decode cX10_valueHere 40 = .ok (.invokevirtual 256, 3) := by decide +kernel
theorem dX10_valueHere_43 : decode cX10_valueHere 43 = .ok (.aload_n 0, 1) := by decide +kernel
theorem dX10_valueHere_44 : decode cX10_valueHere 44 = .ok (.getfield 226, 3) := by decide +kernel
theorem dX10_valueHere_47 : decode cX10_valueHere 47 = .ok (.iconst 2, 1) := by decide +kernel
theorem dX10_valueHere_48 : decode cX10_valueHere 48 = .ok (.if_icmp .eq 11, 3) := by decide +kernel
theorem dX10_valueHere_51 : decode cX10_valueHere 51 = .ok (.aload_n 0, 1) := by decide +kernel
theorem dX10_valueHere_52 : decode cX10_valueHere 52 = .ok (.iconst 1, 1) := by decide +kernel
theorem dX10_valueHere_53 : decode cX10_valueHere 53 = .ok (.invokevirtual 259, 3) := by decide +kernel
theorem dX10_valueHere_56 : decode cX10_valueHere 56 = .ok (.goto 25, 3) := by decide +kernel
theorem dX10_valueHere_59 : decode cX10_valueHere 59 = .ok (.aload_n 0, 1) := by decide +kernel
theorem dX10_valueHere_60 : decode cX10_valueHere 60 = .ok (.getfield 236, 3) := by decide +kernel
theorem dX10_valueHere_63 : decode cX10_valueHere 63 = .ok (.iconst 4, 1) := by decide +kernel
theorem dX10_valueHere_64 : decode cX10_valueHere 64 = .ok (.if_icmp .gt 12, 3) := by decide +kernel
theorem dX10_valueHere_67 : decode cX10_valueHere 67 = .ok (.aload_n 0, 1) := by decide +kernel
theorem dX10_valueHere_68 : decode cX10_valueHere 68 = .ok (.getfield 220, 3) := by decide +kernel
theorem dX10_valueHere_71 : decode cX10_valueHere 71 = .ok (.bipush 7, 2) := by decide +kernel
theorem dX10_valueHere_73 : decode cX10_valueHere 73 = .ok (.if_icmp .le 8, 3) := by decide +kernel
theorem dX10_valueHere_76 : decode cX10_valueHere 76 = .ok (.aload_n 0, 1) := by decide +kernel
theorem dX10_valueHere_77 : decode cX10_valueHere 77 = .ok (.iconst 2, 1) := by decide +kernel
theorem dX10_valueHere_78 : decode cX10_valueHere 78 = .ok (.invokevirtual 259, 3) := by decide +kernel
theorem dX10_valueHere_81 : decode cX10_valueHere 81 = .ok (.aload_n 0, 1) := by decide +kernel
theorem dX10_valueHere_82 : decode cX10_valueHere 82 = .ok (.invokevirtual 252, 3) := by decide +kernel
theorem dX10_valueHere_85 : decode cX10_valueHere 85 = .ok (.ifCond .ne 4, 3) := by decide +kernel
theorem dX10_valueHere_88 : decode cX10_valueHere 88 = .ok (.return_, 1) := by decide +kernel
theorem dX10_valueHere_89 : decode cX10_valueHere 89 = .ok (.aload_n 0, 1) := by decide +kernel
theorem dX10_valueHere_90 : decode cX10_valueHere 90 = .ok (.getfield 220, 3) := by decide +kernel
theorem dX10_valueHere_93 : decode cX10_valueHere 93 = .ok (.istore_n 2, 1) := by decide +kernel
theorem dX10_valueHere_94 : decode cX10_valueHere 94 = .ok (.iload_n 2, 1) := by decide +kernel
theorem dX10_valueHere_95 : decode cX10_valueHere 95 = .ok (.iload_n 1, 1) := by decide +kernel
theorem dX10_valueHere_96 : decode cX10_valueHere 96 = .ok (.iconst 1, 1) := by decide +kernel
theorem dX10_valueHere_97 : decode cX10_valueHere 97 = .ok (.if_icmp .ne 7, 3) := by decide +kernel
theorem dX10_valueHere_100 : decode cX10_valueHere 100 = .ok (.iconst (-1), 1) := by decide +kernel
theorem dX10_valueHere_101 : decode cX10_valueHere 101 = .ok (.goto 13, 3) := by decide +kernel
theorem dX10_valueHere_104 : decode cX10_valueHere 104 = .ok (.iload_n 1, 1) := by decide +kernel
theorem dX10_valueHere_105 : decode cX10_valueHere 105 = .ok (.iconst 2, 1) := by decide +kernel
theorem dX10_valueHere_106 : decode cX10_valueHere 106 = .ok (.if_icmp .ne 7, 3) := by decide +kernel
theorem dX10_valueHere_109 : decode cX10_valueHere 109 = .ok (.iconst 1, 1) := by decide +kernel
theorem dX10_valueHere_110 : decode cX10_valueHere 110 = .ok (.goto 4, 3) := by decide +kernel
theorem dX10_valueHere_113 : decode cX10_valueHere 113 = .ok (.iconst 0, 1) := by decide +kernel
theorem dX10_valueHere_114 : decode cX10_valueHere 114 = .ok (.iadd, 1) := by decide +kernel
theorem dX10_valueHere_115 : decode cX10_valueHere 115 = .ok (.istore_n 2, 1) := by decide +kernel
theorem dX10_valueHere_116 : decode cX10_valueHere 116 = .ok (.iload_n 1, 1) := by decide +kernel
theorem dX10_valueHere_117 : decode cX10_valueHere 117 = .ok (.iconst 2, 1) := by decide +kernel
theorem dX10_valueHere_118 : decode cX10_valueHere 118 = .ok (.if_icmp .le 9, 3) := by decide +kernel
theorem dX10_valueHere_121 : decode cX10_valueHere 121 = .ok (.iload_n 1, 1) := by decide +kernel
theorem dX10_valueHere_122 : decode cX10_valueHere 122 = .ok (.bipush 6, 2) := by decide +kernel
theorem dX10_valueHere_124 : decode cX10_valueHere 124 = .ok (.if_icmp .ne 7, 3) := by decide +kernel
theorem dX10_valueHere_127 : decode cX10_valueHere 127 = .ok (.iconst 1, 1) := by decide +kernel
theorem dX10_valueHere_128 : decode cX10_valueHere 128 = .ok (.goto 4, 3) := by decide +kernel
theorem dX10_valueHere_131 : decode cX10_valueHere 131 = .ok (.iconst 0, 1) := by decide +kernel
theorem dX10_valueHere_132 : decode cX10_valueHere 132 = .ok (.istore_n 3, 1) := by decide +kernel
theorem dX10_valueHere_133 : decode cX10_valueHere 133 = .ok (.iload_n 3, 1) := by decide +kernel
theorem dX10_valueHere_134 : decode cX10_valueHere 134 = .ok (.ifCond .eq 25, 3) := by decide +kernel
theorem dX10_valueHere_137 : decode cX10_valueHere 137 = .ok (.iload_n 2, 1) := by decide +kernel
theorem dX10_valueHere_138 : decode cX10_valueHere 138 = .ok (.ifCond .lt 21, 3) := by decide +kernel
theorem dX10_valueHere_141 : decode cX10_valueHere 141 = .ok (.iload_n 2, 1) := by decide +kernel
theorem dX10_valueHere_142 : decode cX10_valueHere 142 = .ok (.bipush 8, 2) := by decide +kernel
theorem dX10_valueHere_144 : decode cX10_valueHere 144 = .ok (.if_icmp .ge 15, 3) := by decide +kernel
theorem dX10_valueHere_147 : decode cX10_valueHere 147 = .ok (.aload_n 0, 1) := by decide +kernel
theorem dX10_valueHere_148 : decode cX10_valueHere 148 = .ok (.dup, 1) := by decide +kernel
theorem dX10_valueHere_149 : decode cX10_valueHere 149 = .ok (.getfield 269, 3) := by decide +kernel
theorem dX10_valueHere_152 : decode cX10_valueHere 152 = .ok (.iconst 1, 1) := by decide +kernel
theorem dX10_valueHere_153 : decode cX10_valueHere 153 = .ok (.iload_n 2, 1) := by decide +kernel
theorem dX10_valueHere_154 : decode cX10_valueHere 154 = .ok (.ishl, 1) := by decide +kernel
theorem dX10_valueHere_155 : decode cX10_valueHere 155 = .ok (.ior, 1) := by decide +kernel
theorem dX10_valueHere_156 : decode cX10_valueHere 156 = .ok (.putfield 269, 3) := by decide +kernel
theorem dX10_valueHere_159 : decode cX10_valueHere 159 = .ok (.aload_n 0, 1) := by decide +kernel
theorem dX10_valueHere_160 : decode cX10_valueHere 160 = .ok (.iconst 2, 1) := by decide +kernel
theorem dX10_valueHere_161 : decode cX10_valueHere 161 = .ok (.invokevirtual 272, 3) := by decide +kernel
theorem dX10_valueHere_164 : decode cX10_valueHere 164 = .ok (.aload_n 0, 1) := by decide +kernel
theorem dX10_valueHere_165 : decode cX10_valueHere 165 = .ok (.iload_n 3, 1) := by decide +kernel
theorem dX10_valueHere_166 : decode cX10_valueHere 166 = .ok (.ifCond .eq 10, 3) := by decide +kernel
theorem dX10_valueHere_169 : decode cX10_valueHere 169 = .ok (.bipush 14, 2) := by decide +kernel
theorem dX10_valueHere_171 : decode cX10_valueHere 171 = .ok (.iload_n 2, 1) := by decide +kernel
theorem dX10_valueHere_172 : decode cX10_valueHere 172 = .ok (.iadd, 1) := by decide +kernel
theorem dX10_valueHere_173 : decode cX10_valueHere 173 = .ok (.goto 4, 3) := by decide +kernel
theorem dX10_valueHere_176 : decode cX10_valueHere 176 = .ok (.iload_n 1, 1) := by decide +kernel
theorem dX10_valueHere_177 : decode cX10_valueHere 177 = .ok (.invokevirtual 272, 3) := by decide +kernel
theorem dX10_valueHere_180 : decode cX10_valueHere 180 = .ok (.return_, 1) := by decide +kernel

set_option maxHeartbeats 4000000 in
set_option maxRecDepth 100000 in
theorem w_valL {m h : Nat} {T : RT} {a0 : Nat} {C0 : Nat → Int32} {i : Nat} {out w : List Nat} {te : Nat → Bool} {n : Nat} {kd : mK} {I : mI} {J : mJ} {P : mP} {I0 : mI} {J0 : mJ} {a : Nat} {kk : Int32} (hM : kM kd P m) (hT : tkA T) (ha : a < 900) (hg : eG m h T a0 C0 0 I J i out w te) (hf : eFr m I0 I J0 J) : Ru yX10_valueHere.cls cX10_valueHere 4 none yX10_valueHere.name 8 ((fun z n' kd' I' J' P' => z = .inl none ∧ n' = n ∧ kd' = kd ∧ P' = P ∧ eFr m I0 I' J0 J' ∧ eG m h T a0 C0 2 I' J' i (out ++ [10000 + a]) w te)) 0 0 133 [some (.ref m), some (.int kk), some (.int (nI a)), some (.int (nI 1))] [] n kd I J P := by
  have hg0 := hg
  obtain ⟨⟨h16, h27, hgi⟩, ⟨hk, hi⟩, ⟨top, hC, hb⟩, h29, hW, hwi, hD⟩ := hg
  have h501 := hT.1.1.1
  have hlk := lkm_256 (out := out) (show a < 10000 by omega)
  have hr : rval (10000 + a) 2 (a + 14) := Or.inr ⟨rfl, Or.inr (Or.inr (Or.inr (Or.inr ⟨a, rfl, rfl, by omega⟩)))⟩
  by_cases c8 : a < 8
  · rw [if_pos c8] at hlk
    refine r_iload_n dX10_valueHere_133 rfl ?_
    refine r_if_eq (tgt := 159) dX10_valueHere_134 (by decide) (fun hz => absurd hz (show ¬ _ from (by decide))) (fun _ => ?_)
    refine r_iload_n dX10_valueHere_137 rfl ?_
    refine r_if_lt (tgt := 159) dX10_valueHere_138 (by decide) (fun hz => absurd hz (show ¬ _ from (z_nlt (by omega)))) (fun _ => ?_)
    refine r_iload_n dX10_valueHere_141 rfl ?_
    refine r_bipush (v := nI 8) dX10_valueHere_142 (by decide) ?_
    refine r_icmp_ge (tgt := 159) dX10_valueHere_144 (by decide) (fun hz => absurd hz (show ¬ _ from (by rw [nI_leI (by omega) (by omega)]; omega))) (fun _ => ?_)
    refine r_aload_n dX10_valueHere_147 rfl ?_
    refine r_dup dX10_valueHere_148 rfl ?_
    refine r_getI dX10_valueHere_149 fl_X10_269 rfl (kM_0 hM) ?_
    rw [h29]
    refine r_iconst (v := nI 1) dX10_valueHere_152 (by decide) ?_
    refine r_iload_n dX10_valueHere_153 rfl ?_
    refine r_ishl dX10_valueHere_154 ?_
    refine r_ior dX10_valueHere_155 ?_
    rw [← hlk]
    refine r_putI dX10_valueHere_156 fl_X10_269 rfl rfl (kM_0 hM) ?_
    refine r_aload_n dX10_valueHere_159 rfl ?_
    refine r_iconst (v := nI 2) dX10_valueHere_160 (by decide) ?_
    refine r_virtV (c_puI m top (nI 2) hM (by rw [am_up_s, am_up_n _ _ (by decide)]; exact hC.1) (by omega)) lk_X10_272 mc_X10_puts dX10_valueHere_161 (kM_0 hM) (by decide) rfl rfl (Nat.le_of_ble_eq_true rfl) ?_
    refine r_aload_n dX10_valueHere_164 rfl ?_
    refine r_iload_n dX10_valueHere_165 rfl ?_
    refine r_if_eq (tgt := 176) dX10_valueHere_166 (by decide) (fun hz => absurd hz (show ¬ _ from (by decide))) (fun _ => ?_)
    refine r_bipush (v := nI 14) dX10_valueHere_169 (by decide) ?_
    refine r_iload_n dX10_valueHere_171 rfl ?_
    refine r_iadd dX10_valueHere_172 ?_
    rw [nI_add, show 14 + a = a + 14 by omega]
    refine r_goto (tgt := 177) dX10_valueHere_173 (by decide) ?_
    refine r_virtV (c_puI m (top + 1) (nI (a + 14)) hM puI_30 (by omega)) lk_X10_272 mc_X10_puts dX10_valueHere_177 (kM_0 hM) (by decide) rfl rfl (Nat.le_of_ble_eq_true rfl) ?_
    refine r_vret rfl dX10_valueHere_180 ?_
    refine ⟨rfl, rfl, rfl, rfl, ((hf.tr (eFr.pI (J := J) (k := 29) (x := nI (lkm 0 (out ++ [10000 + a]) % 256)) (by decide))).tr eFr.pu).tr eFr.pu, ?_⟩
    have hf2 : ∀ j, j ≠ 29 → va_up I m (va_up (I m) 29 (nI (lkm 0 (out ++ [10000 + a]) % 256))) m j = I m j := fun j hj => by rw [am_up_s, am_up_n _ _ hj]
    have hf3 : ∀ x, x ≠ m → va_up I m (va_up (I m) 29 (nI (lkm 0 (out ++ [10000 + a]) % 256))) x = I x := fun x hx => am_up_n _ _ hx
    refine eG.val (by omega) hr ⟨(hf2 16 (by decide)).trans h16, (hf2 27 (by decide)).trans h27, ?_⟩ ⟨?_, hi⟩ (hC.cg (hf2 30 (by decide)) (hf3 _ (by omega))) (by omega) (by rw [am_up_s, am_up_s]) (hW.cg (hf2 31 (by decide)) (hf3 _ (by omega))) hwi (hD.cg (hf2 32 (by decide)) (hf3 _ (by omega)))
    · unfold gIn
      rw [hf2 19 (by decide), hf3 (m + 11) (by omega)]
      exact hgi
    · unfold gTk kwV at hk ⊢
      rw [hf2 20 (by decide), hf2 22 (by decide), hf2 21 (by decide), hf2 23 (by decide), hf2 24 (by decide), hf2 25 (by decide)]
      exact hk
  · rw [if_neg c8] at hlk
    refine r_iload_n dX10_valueHere_133 rfl ?_
    refine r_if_eq (tgt := 159) dX10_valueHere_134 (by decide) (fun hz => absurd hz (show ¬ _ from (by decide))) (fun _ => ?_)
    refine r_iload_n dX10_valueHere_137 rfl ?_
    refine r_if_lt (tgt := 159) dX10_valueHere_138 (by decide) (fun hz => absurd hz (show ¬ _ from (z_nlt (by omega)))) (fun _ => ?_)
    refine r_iload_n dX10_valueHere_141 rfl ?_
    refine r_bipush (v := nI 8) dX10_valueHere_142 (by decide) ?_
    refine r_icmp_ge (tgt := 159) dX10_valueHere_144 (by decide) (fun _ => ?_) (fun hz => absurd (show _ from (by rw [nI_leI (by omega) (by omega)]; omega)) hz)
    refine r_aload_n dX10_valueHere_159 rfl ?_
    refine r_iconst (v := nI 2) dX10_valueHere_160 (by decide) ?_
    refine r_virtV (c_puI m top (nI 2) hM (hC.1) (by omega)) lk_X10_272 mc_X10_puts dX10_valueHere_161 (kM_0 hM) (by decide) rfl rfl (Nat.le_of_ble_eq_true rfl) ?_
    refine r_aload_n dX10_valueHere_164 rfl ?_
    refine r_iload_n dX10_valueHere_165 rfl ?_
    refine r_if_eq (tgt := 176) dX10_valueHere_166 (by decide) (fun hz => absurd hz (show ¬ _ from (by decide))) (fun _ => ?_)
    refine r_bipush (v := nI 14) dX10_valueHere_169 (by decide) ?_
    refine r_iload_n dX10_valueHere_171 rfl ?_
    refine r_iadd dX10_valueHere_172 ?_
    rw [nI_add, show 14 + a = a + 14 by omega]
    refine r_goto (tgt := 177) dX10_valueHere_173 (by decide) ?_
    refine r_virtV (c_puI m (top + 1) (nI (a + 14)) hM puI_30 (by omega)) lk_X10_272 mc_X10_puts dX10_valueHere_177 (kM_0 hM) (by decide) rfl rfl (Nat.le_of_ble_eq_true rfl) ?_
    refine r_vret rfl dX10_valueHere_180 ?_
    exact ⟨rfl, rfl, rfl, rfl, (hf.tr eFr.pu).tr eFr.pu, eG.val (by omega) hr ⟨h16, h27, hgi⟩ ⟨hk, hi⟩ hC (by omega) (h29.trans hlk.symm) hW hwi hD⟩

set_option maxHeartbeats 4000000 in
set_option maxRecDepth 100000 in
theorem w_valB {m h : Nat} {T : RT} {a0 : Nat} {C0 : Nat → Int32} {i : Nat} {out w : List Nat} {te : Nat → Bool} {n : Nat} {kd : mK} {I : mI} {J : mJ} {P : mP} {I0 : mI} {J0 : mJ} {kk : Int32} (hM : kM kd P m) (hT : tkA T) (hg : eG m h T a0 C0 0 I J i out w te) (hf : eFr m I0 I J0 J) : Ru yX10_valueHere.cls cX10_valueHere 4 none yX10_valueHere.name 8 ((fun z n' kd' I' J' P' => z = .inl none ∧ n' = n ∧ kd' = kd ∧ P' = P ∧ eFr m I0 I' J0 J' ∧ eG m h T a0 C0 2 I' J' i (out ++ [0]) w te)) 0 0 133 [some (.ref m), some (.int kk), some (.int (-1)), some (.int (nI 1))] [] n kd I J P := by
  have hg0 := hg
  obtain ⟨⟨h16, h27, hgi⟩, ⟨hk, hi⟩, ⟨top, hC, hb⟩, h29, hW, hwi, hD⟩ := hg
  have h501 := hT.1.1.1
  refine r_iload_n dX10_valueHere_133 rfl ?_
  refine r_if_eq (tgt := 159) dX10_valueHere_134 (by decide) (fun hz => absurd hz (show ¬ _ from (by decide))) (fun _ => ?_)
  refine r_iload_n dX10_valueHere_137 rfl ?_
  refine r_if_lt (tgt := 159) dX10_valueHere_138 (by decide) (fun _ => ?_) (fun hz => absurd (show _ from (by decide)) hz)
  refine r_aload_n dX10_valueHere_159 rfl ?_
  refine r_iconst (v := nI 2) dX10_valueHere_160 (by decide) ?_
  refine r_virtV (c_puI m top (nI 2) hM (hC.1) (by omega)) lk_X10_272 mc_X10_puts dX10_valueHere_161 (kM_0 hM) (by decide) rfl rfl (Nat.le_of_ble_eq_true rfl) ?_
  refine r_aload_n dX10_valueHere_164 rfl ?_
  refine r_iload_n dX10_valueHere_165 rfl ?_
  refine r_if_eq (tgt := 176) dX10_valueHere_166 (by decide) (fun hz => absurd hz (show ¬ _ from (by decide))) (fun _ => ?_)
  refine r_bipush (v := nI 14) dX10_valueHere_169 (by decide) ?_
  refine r_iload_n dX10_valueHere_171 rfl ?_
  refine r_iadd dX10_valueHere_172 ?_
  rw [show nI 14 + (-1) = nI 13 from by decide]
  refine r_goto (tgt := 177) dX10_valueHere_173 (by decide) ?_
  refine r_virtV (c_puI m (top + 1) (nI 13) hM puI_30 (by omega)) lk_X10_272 mc_X10_puts dX10_valueHere_177 (kM_0 hM) (by decide) rfl rfl (Nat.le_of_ble_eq_true rfl) ?_
  refine r_vret rfl dX10_valueHere_180 ?_
  exact ⟨rfl, rfl, rfl, rfl, (hf.tr eFr.pu).tr eFr.pu, eG.val (by decide) (Or.inr ⟨rfl, Or.inl ⟨rfl, rfl⟩⟩) ⟨h16, h27, hgi⟩ ⟨hk, hi⟩ hC (by omega) (by rw [lkm_n (by omega)]; exact h29) hW hwi hD⟩

set_option maxHeartbeats 4000000 in
set_option maxRecDepth 100000 in
theorem w_valN {m h : Nat} {T : RT} {a0 : Nat} {C0 : Nat → Int32} {i : Nat} {out w : List Nat} {te : Nat → Bool} {n : Nat} {kd : mK} {I : mI} {J : mJ} {P : mP} {I0 : mI} {J0 : mJ} {q : Nat} {at9 : Int32} (hM : kM kd P m) (hT : tkA T) (hq : q = 3 ∨ q = 4 ∨ q = 5) (hg : eG m h T a0 C0 0 I J i out w te) (hf : eFr m I0 I J0 J) : Ru yX10_valueHere.cls cX10_valueHere 4 none yX10_valueHere.name 8 ((fun z n' kd' I' J' P' => z = .inl none ∧ n' = n ∧ kd' = kd ∧ P' = P ∧ eFr m I0 I' J0 J' ∧ eG m h T a0 C0 2 I' J' i (out ++ [(if q = 3 then 20000 else if q = 4 then 20001 else 20002)]) w te)) 0 0 133 [some (.ref m), some (.int (nI q)), some (.int at9), some (.int (nI 0))] [] n kd I J P := by
  have hg0 := hg
  obtain ⟨⟨h16, h27, hgi⟩, ⟨hk, hi⟩, ⟨top, hC, hb⟩, h29, hW, hwi, hD⟩ := hg
  have h501 := hT.1.1.1
  have hr : rval (if q = 3 then 20000 else if q = 4 then 20001 else 20002) 2 q := by
    rcases hq with c | c | c <;> subst c
    · exact Or.inr ⟨rfl, Or.inr (Or.inl ⟨rfl, rfl⟩)⟩
    · exact Or.inr ⟨rfl, Or.inr (Or.inr (Or.inl ⟨rfl, rfl⟩))⟩
    · exact Or.inr ⟨rfl, Or.inr (Or.inr (Or.inr (Or.inl ⟨rfl, rfl⟩)))⟩
  have hc9 : ¬ (10000 ≤ (if q = 3 then 20000 else if q = 4 then 20001 else 20002) ∧ (if q = 3 then 20000 else if q = 4 then 20001 else 20002) < 20000) ∧ (if q = 3 then 20000 else if q = 4 then 20001 else 20002) < 20003 := by rcases hq with c | c | c <;> subst c <;> decide
  refine r_iload_n dX10_valueHere_133 rfl ?_
  refine r_if_eq (tgt := 159) dX10_valueHere_134 (by decide) (fun _ => ?_) (fun hz => absurd (show _ from (by decide)) hz)
  refine r_aload_n dX10_valueHere_159 rfl ?_
  refine r_iconst (v := nI 2) dX10_valueHere_160 (by decide) ?_
  refine r_virtV (c_puI m top (nI 2) hM (hC.1) (by omega)) lk_X10_272 mc_X10_puts dX10_valueHere_161 (kM_0 hM) (by decide) rfl rfl (Nat.le_of_ble_eq_true rfl) ?_
  refine r_aload_n dX10_valueHere_164 rfl ?_
  refine r_iload_n dX10_valueHere_165 rfl ?_
  refine r_if_eq (tgt := 176) dX10_valueHere_166 (by decide) (fun _ => ?_) (fun hz => absurd (show _ from (by decide)) hz)
  refine r_iload_n dX10_valueHere_176 rfl ?_
  refine r_virtV (c_puI m (top + 1) (nI q) hM puI_30 (by omega)) lk_X10_272 mc_X10_puts dX10_valueHere_177 (kM_0 hM) (by decide) rfl rfl (Nat.le_of_ble_eq_true rfl) ?_
  refine r_vret rfl dX10_valueHere_180 ?_
  exact ⟨rfl, rfl, rfl, rfl, (hf.tr eFr.pu).tr eFr.pu, eG.val hc9.2 hr ⟨h16, h27, hgi⟩ ⟨hk, hi⟩ hC (by omega) (by rw [lkm_n hc9.1]; exact h29) hW hwi hD⟩


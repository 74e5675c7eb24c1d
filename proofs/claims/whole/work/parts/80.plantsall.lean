/-! THE REFERENCE PLANTS ALL -/
def paZ (h : Nat) (q : PS) : PS := S_lk (va_up (G_lk (S_mu (va_up (G_mu (S_ri (va_up (G_ri (S_de (va_up (G_de (S_so (va_up (G_so (q)) h (nI 0)) (q))) h (nI 0)) (S_so (va_up (G_so (q)) h (nI 0)) (q)))) h (nI 0)) (S_de (va_up (G_de (S_so (va_up (G_so (q)) h (nI 0)) (q))) h (nI 0)) (S_so (va_up (G_so (q)) h (nI 0)) (q))))) h (nI 0)) (S_ri (va_up (G_ri (S_de (va_up (G_de (S_so (va_up (G_so (q)) h (nI 0)) (q))) h (nI 0)) (S_so (va_up (G_so (q)) h (nI 0)) (q)))) h (nI 0)) (S_de (va_up (G_de (S_so (va_up (G_so (q)) h (nI 0)) (q))) h (nI 0)) (S_so (va_up (G_so (q)) h (nI 0)) (q)))))) h (nI 0)) (S_mu (va_up (G_mu (S_ri (va_up (G_ri (S_de (va_up (G_de (S_so (va_up (G_so (q)) h (nI 0)) (q))) h (nI 0)) (S_so (va_up (G_so (q)) h (nI 0)) (q)))) h (nI 0)) (S_de (va_up (G_de (S_so (va_up (G_so (q)) h (nI 0)) (q))) h (nI 0)) (S_so (va_up (G_so (q)) h (nI 0)) (q))))) h (nI 0)) (S_ri (va_up (G_ri (S_de (va_up (G_de (S_so (va_up (G_so (q)) h (nI 0)) (q))) h (nI 0)) (S_so (va_up (G_so (q)) h (nI 0)) (q)))) h (nI 0)) (S_de (va_up (G_de (S_so (va_up (G_so (q)) h (nI 0)) (q))) h (nI 0)) (S_so (va_up (G_so (q)) h (nI 0)) (q)))))
theorem paZ_pl (h : Nat) (q : PS) : pPl (paZ h q) = pPl q ∧ pTp (paZ h q) = pTp q ∧ pIt (paZ h q) = pIt q := by
  obtain ⟨it, ho, tp, pl, so, de, ri, mu, ra, lk, cd, te, tf, tt, pg⟩ := q
  simp only [paZ, S_so, S_de, S_ri, S_mu, S_lk, pPl, pTp, pIt, and_self]
def paQ (M H h : Nat) (q : PS) : PS := if h < H then (if dv (lcg (pIt q)) % 4 = 1 then pl1 h (1 + dv (lcg (lcg (pIt q))) % M) (pD (pD (paZ h q))) else if dv (lcg (pIt q)) % 4 = 2 ∧ 0 < h then pl2 h (dv (lcg (lcg (pIt q))) % h) (dv (lcg (lcg (lcg (pIt q)))) % 4) (pD (pD (pD (paZ h q)))) else if dv (lcg (pIt q)) % 4 = 3 ∧ 0 < h then pl3 h (dv (lcg (lcg (pIt q))) % h) (pD (pD (paZ h q))) else pD (paZ h q)) else paZ h q
def paN (H h : Nat) (x : Int32) : Nat := if h < H then (if dv (lcg x) % 4 = 1 then 1 else if dv (lcg x) % 4 = 2 ∧ 0 < h then 1 else if dv (lcg x) % 4 = 3 ∧ 0 < h then 1 else 0) else 0
def paL (M H : Nat) : Nat → Nat → PS → PS
  | 0, _, q => q
  | k + 1, h, q => paL M H k (h + 1) (paQ M H h q)
def paC (M H : Nat) : Nat → Nat → PS → Nat
  | 0, _, _ => 0
  | k + 1, h, q => paN H h (pIt q) + paC M H k (h + 1) (paQ M H h q)
def paT (q : PS) : PS := S_te (fun j => if j < G_pl q then G_pg q j else G_te q j) q
theorem pl1_pl (h v : Nat) (q : PS) : pPl (pl1 h v q) ≤ pPl q + 16 ∧ pTp (pl1 h v q) ≤ pTp q + 10 ∧ pIt (pl1 h v q) = pIt q := by
  have l1 := dg_len v
  unfold pl1
  refine ⟨?_, ?_, ?_⟩
  · simp only [pEnd_pl, pSet_pl, pWs_pl, pW_pl, pV_pl, pP_pl, pA_pl, hereW, List.length_cons, List.length_nil]; omega
  · simp only [pEnd_pl, pSet_pl, pWs_pl, pW_pl, pV_pl, pP_pl, pA_pl, hereW, List.length_cons, List.length_nil]; omega
  · simp only [pEnd_pl, pSet_pl, pWs_pl, pW_pl, pV_pl, pP_pl, pA_pl]
theorem pl2_pl (h k v : Nat) (q : PS) : pPl (pl2 h k v q) ≤ pPl q + 16 ∧ pTp (pl2 h k v q) ≤ pTp q + 10 ∧ pIt (pl2 h k v q) = pIt q := by
  have l1 := dg_len v
  have l2 := dg_len k
  unfold pl2
  refine ⟨?_, ?_, ?_⟩
  · simp only [pEnd_pl, pSet_pl, pWs_pl, pW_pl, pV_pl, pP_pl, pA_pl, hereW, ofW, List.length_cons, List.length_nil]; omega
  · simp only [pEnd_pl, pSet_pl, pWs_pl, pW_pl, pV_pl, pP_pl, pA_pl, hereW, ofW, List.length_cons, List.length_nil]; omega
  · simp only [pEnd_pl, pSet_pl, pWs_pl, pW_pl, pV_pl, pP_pl, pA_pl]
theorem pl3_pl (h k : Nat) (q : PS) : pPl (pl3 h k q) ≤ pPl q + 16 ∧ pTp (pl3 h k q) ≤ pTp q + 10 ∧ pIt (pl3 h k q) = pIt q := by
  have l2 := dg_len k
  unfold pl3
  refine ⟨?_, ?_, ?_⟩
  · simp only [pEnd_pl, pSet_pl, pWs_pl, pW_pl, pV_pl, pP_pl, pA_pl, hereW, ofW, notW, List.length_cons, List.length_nil]; omega
  · simp only [pEnd_pl, pSet_pl, pWs_pl, pW_pl, pV_pl, pP_pl, pA_pl, hereW, ofW, notW, List.length_cons, List.length_nil]; omega
  · simp only [pEnd_pl, pSet_pl, pWs_pl, pW_pl, pV_pl, pP_pl, pA_pl]
theorem paQ_pl (M H h : Nat) (q : PS) : pPl (paQ M H h q) ≤ pPl q + 16 ∧ pTp (paQ M H h q) ≤ pTp q + 10 ∧ pIt (paQ M H h q) = if h < H then sdS (pIt q) h else pIt q := by
  have hz := paZ_pl h q
  unfold paQ sdS
  split
  · split
    · have := pl1_pl h (1 + dv (lcg (lcg (pIt q))) % M) (pD (pD (paZ h q)))
      rw [(pD_pl _).1, (pD_pl _).1, (pD_pl (pD _)).2.1, (pD_pl _).2.1, (pD_pl (pD _)).2.2, (pD_pl (paZ h q)).2.2, hz.1, hz.2.1, hz.2.2] at this
      exact this
    split
    · have := pl2_pl h (dv (lcg (lcg (pIt q))) % h) (dv (lcg (lcg (lcg (pIt q)))) % 4) (pD (pD (pD (paZ h q))))
      rw [(pD_pl _).1, (pD_pl _).1, (pD_pl _).1, (pD_pl (pD (pD _))).2.1, (pD_pl (pD _)).2.1, (pD_pl _).2.1, (pD_pl (pD (pD _))).2.2, (pD_pl (pD _)).2.2, (pD_pl (paZ h q)).2.2, hz.1, hz.2.1, hz.2.2] at this
      exact this
    split
    · have := pl3_pl h (dv (lcg (lcg (pIt q))) % h) (pD (pD (paZ h q)))
      rw [(pD_pl _).1, (pD_pl _).1, (pD_pl (pD _)).2.1, (pD_pl _).2.1, (pD_pl (pD _)).2.2, (pD_pl (paZ h q)).2.2, hz.1, hz.2.1, hz.2.2] at this
      exact this
    · rw [(pD_pl _).1, (pD_pl _).2.1, (pD_pl _).2.2, hz.1, hz.2.1, hz.2.2]
      exact ⟨by omega, by omega, rfl⟩
  · rw [hz.1, hz.2.1, hz.2.2]
    exact ⟨by omega, by omega, rfl⟩
theorem paL_pl (M H k : Nat) : ∀ (h : Nat) (q : PS), pPl (paL M H k h q) ≤ pPl q + 16 * k ∧ pTp (paL M H k h q) ≤ pTp q + 10 * k := by
  induction k with
  | zero => intro h q; unfold paL; omega
  | succ k ih =>
    intro h q
    unfold paL
    have h1 := ih (h + 1) (paQ M H h q)
    have h2 := paQ_pl M H h q
    omega
def psOf (I : mI) (m : Nat) : PS := (I m 78, I m 1, nO (I m 30), nO (I m 77), I (m + 1), I (m + 2), I (m + 3), I (m + 4), I (m + 5), I (m + 6), I (m + 7), I (m + 8), I (m + 9), I (m + 10), I (m + 40))
theorem gI_self (m : Nat) (I : mI) : gI m (psOf I m) I = I := by
  funext a
  simp only [gI, psOf]
  by_cases h0 : a = m
  · subst h0
    rw [if_pos rfl]
    funext j
    simp only [gIRow, nO_eq]
    by_cases j0 : j = 78
    · simp [j0]
    by_cases j1 : j = 1
    · simp [j1]
    by_cases j2 : j = 30
    · simp [j2]
    by_cases j3 : j = 77
    · simp [j3]
    simp [j0, j1, j2, j3]
  rw [if_neg h0]
  by_cases h1 : a = m + 1
  · simp [h1]
  by_cases h2 : a = m + 2
  · simp [h2]
  by_cases h3 : a = m + 3
  · simp [h3]
  by_cases h4 : a = m + 4
  · simp [h4]
  by_cases h5 : a = m + 5
  · simp [h5]
  by_cases h6 : a = m + 6
  · simp [h6]
  by_cases h7 : a = m + 7
  · simp [h7]
  by_cases h8 : a = m + 8
  · simp [h8]
  by_cases h9 : a = m + 9
  · simp [h9]
  by_cases h10 : a = m + 10
  · simp [h10]
  by_cases h40 : a = m + 40
  · simp [h40]
  simp [h1, h2, h3, h4, h5, h6, h7, h8, h9, h10, h40]
theorem dX10_plantsAll_0 : decode cX10_plantsAll 0 = .ok (.aload_n 0, 1) := by decide +kernel
theorem dX10_plantsAll_1 : decode cX10_plantsAll 1 = .ok (.iload_n 1, 1) := by decide +kernel
theorem dX10_plantsAll_2 : decode cX10_plantsAll 2 = .ok (.putfield 529, 3) := by decide +kernel
theorem dX10_plantsAll_5 : decode cX10_plantsAll 5 = .ok (.aload_n 0, 1) := by decide +kernel
theorem dX10_plantsAll_6 : decode cX10_plantsAll 6 = .ok (.iload_n 2, 1) := by decide +kernel
theorem dX10_plantsAll_7 : decode cX10_plantsAll 7 = .ok (.putfield 350, 3) := by decide +kernel
theorem dX10_plantsAll_10 : decode cX10_plantsAll 10 = .ok (.aload_n 0, 1) := by decide +kernel
theorem dX10_plantsAll_11 : decode cX10_plantsAll 11 = .ok (.iconst 0, 1) := by decide +kernel
theorem dX10_plantsAll_12 : decode cX10_plantsAll 12 = .ok (.putfield 275, 3) := by decide +kernel
theorem dX10_plantsAll_15 : decode cX10_plantsAll 15 = .ok (.aload_n 0, 1) := by decide +kernel
theorem dX10_plantsAll_16 : decode cX10_plantsAll 16 = .ok (.iconst 0, 1) := by decide +kernel
theorem dX10_plantsAll_17 : decode cX10_plantsAll 17 = .ok (.putfield 505, 3) := by decide +kernel
theorem dX10_plantsAll_20 : decode cX10_plantsAll 20 = .ok (.iconst 0, 1) := by decide +kernel
theorem dX10_plantsAll_21 : decode cX10_plantsAll 21 = .ok (.istore_n 3, 1) := by decide +kernel
theorem dX10_plantsAll_22 : decode cX10_plantsAll 22 = .ok (.iconst 0, 1) := by decide +kernel
theorem dX10_plantsAll_23 : decode cX10_plantsAll 23 = .ok (.istore 4, 2) := by decide +kernel
theorem dX10_plantsAll_25 : decode cX10_plantsAll 25 = .ok (.iload 4, 2) := by decide +kernel
theorem dX10_plantsAll_27 : decode cX10_plantsAll 27 = .ok (.bipush 8, 2) := by decide +kernel
theorem dX10_plantsAll_29 : decode cX10_plantsAll 29 = .ok (.if_icmp .ge 96, 3) := by decide +kernel
theorem dX10_plantsAll_32 : decode cX10_plantsAll 32 = .ok (.aload_n 0, 1) := by decide +kernel
theorem dX10_plantsAll_33 : decode cX10_plantsAll 33 = .ok (.getfield 13, 3) := by decide +kernel
theorem dX10_plantsAll_36 : decode cX10_plantsAll 36 = .ok (.iload 4, 2) := by decide +kernel
theorem dX10_plantsAll_38 : decode cX10_plantsAll 38 = .ok (.iconst 0, 1) := by decide +kernel
theorem dX10_plantsAll_39 : decode cX10_plantsAll 39 = .ok (.iastore, 1) := by decide +kernel
theorem dX10_plantsAll_40 : decode cX10_plantsAll 40 = .ok (.aload_n 0, 1) := by decide +kernel
theorem dX10_plantsAll_41 : decode cX10_plantsAll 41 = .ok (.getfield 17, 3) := by decide +kernel
theorem dX10_plantsAll_44 : decode cX10_plantsAll 44 = .ok (.iload 4, 2) := by decide +kernel
theorem dX10_plantsAll_46 : decode cX10_plantsAll 46 = .ok (.iconst 0, 1) := by decide +kernel
theorem dX10_plantsAll_47 : decode cX10_plantsAll 47 = .ok (.iastore, 1) := by decide +kernel
theorem dX10_plantsAll_48 : decode cX10_plantsAll 48 = .ok (.aload_n 0, 1) := by decide +kernel
theorem dX10_plantsAll_49 : decode cX10_plantsAll 49 = .ok (.getfield 20, 3) := by decide +kernel
theorem dX10_plantsAll_52 : decode cX10_plantsAll 52 = .ok (.iload 4, 2) := by decide +kernel
theorem dX10_plantsAll_54 : decode cX10_plantsAll 54 = .ok (.iconst 0, 1) := by decide +kernel
theorem dX10_plantsAll_55 : decode cX10_plantsAll 55 = .ok (.iastore, 1) := by decide +kernel
theorem dX10_plantsAll_56 : decode cX10_plantsAll 56 = .ok (.aload_n 0, 1) := by decide +kernel
theorem dX10_plantsAll_57 : decode cX10_plantsAll 57 = .ok (.getfield 23, 3) := by decide +kernel
theorem dX10_plantsAll_60 : decode cX10_plantsAll 60 = .ok (.iload 4, 2) := by decide +kernel
theorem dX10_plantsAll_62 : decode cX10_plantsAll 62 = .ok (.iconst 0, 1) := by decide +kernel
theorem dX10_plantsAll_63 : decode cX10_plantsAll 63 = .ok (.iastore, 1) := by decide +kernel
theorem dX10_plantsAll_64 : decode cX10_plantsAll 64 = .ok (.aload_n 0, 1) := by decide +kernel
theorem dX10_plantsAll_65 : decode cX10_plantsAll 65 = .ok (.getfield 29, 3) := by decide +kernel
theorem dX10_plantsAll_68 : decode cX10_plantsAll 68 = .ok (.iload 4, 2) := by decide +kernel
theorem dX10_plantsAll_70 : decode cX10_plantsAll 70 = .ok (.iconst 0, 1) := by decide +kernel
theorem dX10_plantsAll_71 : decode cX10_plantsAll 71 = .ok (.iastore, 1) := by decide +kernel
theorem dX10_plantsAll_72 : decode cX10_plantsAll 72 = .ok (.iload 4, 2) := by decide +kernel
theorem dX10_plantsAll_74 : decode cX10_plantsAll 74 = .ok (.iload_n 2, 1) := by decide +kernel
theorem dX10_plantsAll_75 : decode cX10_plantsAll 75 = .ok (.if_icmp .ge 11, 3) := by decide +kernel
theorem dX10_plantsAll_78 : decode cX10_plantsAll 78 = .ok (.aload_n 0, 1) := by decide +kernel
theorem dX10_plantsAll_79 : decode cX10_plantsAll 79 = .ok (.iconst 4, 1) := by decide +kernel
theorem dX10_plantsAll_80 : decode cX10_plantsAll 80 = .ok (.invokevirtual 532, 3) := by decide +kernel
theorem dX10_plantsAll_83 : decode cX10_plantsAll 83 = .ok (.goto 4, 3) := by decide +kernel
theorem dX10_plantsAll_86 : decode cX10_plantsAll 86 = .ok (.iconst 0, 1) := by decide +kernel
theorem dX10_plantsAll_87 : decode cX10_plantsAll 87 = .ok (.istore 5, 2) := by decide +kernel
theorem dX10_plantsAll_89 : decode cX10_plantsAll 89 = .ok (.iload 5, 2) := by decide +kernel
theorem dX10_plantsAll_91 : decode cX10_plantsAll 91 = .ok (.ifCond .eq 28, 3) := by decide +kernel
theorem dX10_plantsAll_94 : decode cX10_plantsAll 94 = .ok (.iload 5, 2) := by decide +kernel
theorem dX10_plantsAll_96 : decode cX10_plantsAll 96 = .ok (.iconst 1, 1) := by decide +kernel
theorem dX10_plantsAll_97 : decode cX10_plantsAll 97 = .ok (.if_icmp .le 11, 3) := by decide +kernel
theorem dX10_plantsAll_100 : decode cX10_plantsAll 100 = .ok (.iload 4, 2) := by decide +kernel
theorem dX10_plantsAll_102 : decode cX10_plantsAll 102 = .ok (.ifCond .ne 6, 3) := by decide +kernel
theorem dX10_plantsAll_105 : decode cX10_plantsAll 105 = .ok (.goto 14, 3) := by decide +kernel
theorem dX10_plantsAll_108 : decode cX10_plantsAll 108 = .ok (.aload_n 0, 1) := by decide +kernel
theorem dX10_plantsAll_109 : decode cX10_plantsAll 109 = .ok (.iload 4, 2) := by decide +kernel
theorem dX10_plantsAll_111 : decode cX10_plantsAll 111 = .ok (.iload 5, 2) := by decide +kernel
theorem dX10_plantsAll_113 : decode cX10_plantsAll 113 = .ok (.invokevirtual 544, 3) := by decide +kernel
theorem dX10_plantsAll_116 : decode cX10_plantsAll 116 = .ok (.iinc 3 1, 3) := by decide +kernel
theorem dX10_plantsAll_119 : decode cX10_plantsAll 119 = .ok (.iinc 4 1, 3) := by decide +kernel
theorem dX10_plantsAll_122 : decode cX10_plantsAll 122 = .ok (.goto (-97), 3) := by decide +kernel
theorem dX10_plantsAll_125 : decode cX10_plantsAll 125 = .ok (.iconst 0, 1) := by decide +kernel
theorem dX10_plantsAll_126 : decode cX10_plantsAll 126 = .ok (.istore 4, 2) := by decide +kernel
theorem dX10_plantsAll_128 : decode cX10_plantsAll 128 = .ok (.iload 4, 2) := by decide +kernel
theorem dX10_plantsAll_130 : decode cX10_plantsAll 130 = .ok (.aload_n 0, 1) := by decide +kernel
theorem dX10_plantsAll_131 : decode cX10_plantsAll 131 = .ok (.getfield 505, 3) := by decide +kernel
theorem dX10_plantsAll_134 : decode cX10_plantsAll 134 = .ok (.if_icmp .ge 23, 3) := by decide +kernel
theorem dX10_plantsAll_137 : decode cX10_plantsAll 137 = .ok (.aload_n 0, 1) := by decide +kernel
theorem dX10_plantsAll_138 : decode cX10_plantsAll 138 = .ok (.getfield 35, 3) := by decide +kernel
theorem dX10_plantsAll_141 : decode cX10_plantsAll 141 = .ok (.iload 4, 2) := by decide +kernel
theorem dX10_plantsAll_143 : decode cX10_plantsAll 143 = .ok (.aload_n 0, 1) := by decide +kernel
theorem dX10_plantsAll_144 : decode cX10_plantsAll 144 = .ok (.getfield 145, 3) := by decide +kernel
theorem dX10_plantsAll_147 : decode cX10_plantsAll 147 = .ok (.iload 4, 2) := by decide +kernel
theorem dX10_plantsAll_149 : decode cX10_plantsAll 149 = .ok (.iaload, 1) := by decide +kernel
theorem dX10_plantsAll_150 : decode cX10_plantsAll 150 = .ok (.iastore, 1) := by decide +kernel
theorem dX10_plantsAll_151 : decode cX10_plantsAll 151 = .ok (.iinc 4 1, 3) := by decide +kernel
theorem dX10_plantsAll_154 : decode cX10_plantsAll 154 = .ok (.goto (-26), 3) := by decide +kernel
theorem dX10_plantsAll_157 : decode cX10_plantsAll 157 = .ok (.iload_n 3, 1) := by decide +kernel
theorem dX10_plantsAll_158 : decode cX10_plantsAll 158 = .ok (.ireturn, 1) := by decide +kernel

theorem S_te_p (A B : Nat → Int32) (q : PS) : G_pl (S_te A q) = G_pl q ∧ G_pg (S_te A q) = G_pg q ∧ G_te (S_te A q) = A ∧ S_te B (S_te A q) = S_te B q := by
  obtain ⟨it, ho, tp, pl, so, de, ri, mu, ra, lk, cd, te, tf, tt, pg⟩ := q
  exact ⟨rfl, rfl, rfl, rfl⟩
theorem te_step (q : PS) (i : Nat) : va_up (fun j => if j < i then G_pg q j else G_te q j) i (G_pg q i) = (fun j => if j < i + 1 then G_pg q j else G_te q j) := by
  funext j
  unfold va_up
  by_cases h : j = i
  · subst h; simp
  · by_cases h2 : j < i
    · simp [h, h2, show j < i + 1 by omega]
    · simp [h, h2, show ¬ j < i + 1 by omega]
theorem te_0 (q : PS) : S_te (fun j => if j < 0 then G_pg q j else G_te q j) q = q := by
  obtain ⟨it, ho, tp, pl, so, de, ri, mu, ra, lk, cd, te, tf, tt, pg⟩ := q
  simp only [S_te, G_te, G_pg]
  congr
set_option maxHeartbeats 4000000 in
set_option maxRecDepth 100000 in
theorem wt_X10_plantsAll (m H c : Nat) (x : Int32) (z5 : Option Value) (q : PS) {n : Nat} {kd : mK} {I : mI} {J : mJ} {P : mP} (hM : kM kd P m) (hp : G_pl q ≤ 500) : ∀ (k i : Nat), i + k = G_pl q → Ru yX10_plantsAll.cls cX10_plantsAll 6 (some .int) yX10_plantsAll.name 5 (am_is (some (.int (nI (c)))) n kd (gI m (paT q) I) J P) 0 0 128 [some (.ref m), some (.int x), some (.int (nI H)), some (.int (nI c)), some (.int (nI i)), z5] [] n kd (gI m (S_te (fun j => if j < i then G_pg q j else G_te q j) q) I) J P := by
  intro k
  induction k with
  | zero =>
    intro i hi
    have hi : i = G_pl q := by omega
    refine r_iload dX10_plantsAll_128 rfl ?_
    refine r_aload_n dX10_plantsAll_130 rfl ?_
    refine r_getI dX10_plantsAll_131 fl_X10_505 rfl (kM_0 hM) ?_
    rw [gI_Gpl, (S_te_p (fun j => if j < i then G_pg q j else G_te q j) (fun _ => 0) q).1]
    refine r_icmp_ge (tgt := 157) dX10_plantsAll_134 (by decide) (fun _ => ?_) (fun hz => absurd (show _ from (by rw [nI_leI (by omega) (by omega)]; omega)) hz)
    refine r_iload_n dX10_plantsAll_157 rfl ?_
    refine r_iret rfl dX10_plantsAll_158 ?_
    rw [hi]
    exact am_is.mk
  | succ k ih =>
    intro i hi
    refine r_iload dX10_plantsAll_128 rfl ?_
    refine r_aload_n dX10_plantsAll_130 rfl ?_
    refine r_getI dX10_plantsAll_131 fl_X10_505 rfl (kM_0 hM) ?_
    rw [gI_Gpl, (S_te_p (fun j => if j < i then G_pg q j else G_te q j) (fun _ => 0) q).1]
    refine r_icmp_ge (tgt := 157) dX10_plantsAll_134 (by decide) (fun hz => absurd hz (show ¬ _ from (by rw [nI_leI (by omega) (by omega)]; omega))) (fun _ => ?_)
    refine r_aload_n dX10_plantsAll_137 rfl ?_
    refine r_getR dX10_plantsAll_138 fl_X10_35 rfl (kM_0 hM) (pM_11 hM) ?_
    refine r_iload dX10_plantsAll_141 rfl ?_
    refine r_aload_n dX10_plantsAll_143 rfl ?_
    refine r_getR dX10_plantsAll_144 fl_X10_145 rfl (kM_0 hM) (pM_76 hM) ?_
    refine r_iload dX10_plantsAll_147 rfl ?_
    refine r_iald dX10_plantsAll_149 (aM_76 hM) (nI_in8 1100 (by omega) (by decide)) (nI_clamp (by omega)) ?_
    rw [gI_Apg, (S_te_p (fun j => if j < i then G_pg q j else G_te q j) (fun _ => 0) q).2.1]
    refine r_iast dX10_plantsAll_150 (aM_11 hM) (nI_in8 500 (by omega) (by decide)) (nI_clamp (by omega)) ?_
    rw [gI_Ate, gI_Wte, (S_te_p (fun j => if j < i then G_pg q j else G_te q j) (fun _ => 0) q).2.2.1, (S_te_p (fun j => if j < i then G_pg q j else G_te q j) _ q).2.2.2, te_step]
    refine r_iinc (v := nI (i + 1)) dX10_plantsAll_151 rfl (nI_inc i) ?_
    refine r_goto (tgt := 128) dX10_plantsAll_154 (by decide) ?_
    exact ih (i + 1) (by omega)

set_option maxHeartbeats 4000000 in
set_option maxRecDepth 100000 in
theorem wl_X10_plantsAll (m M H : Nat) (x : Int32) {n : Nat} {kd : mK} {I : mI} {J : mJ} {P : mP} (hM : kM kd P m) (hMo : I m 2 = nI M) (hM0 : 0 < M) (hM20 : M ≤ 20) (hH : H ≤ 8) : ∀ (k h c : Nat) (z5 : Option Value) (q : PS), h + k = 8 → pTp q ≤ 10 * h → pPl q ≤ 16 * h → Ru yX10_plantsAll.cls cX10_plantsAll 6 (some .int) yX10_plantsAll.name 5 (am_is (some (.int (nI (c + paC M H k h q)))) n kd (gI m (paT (paL M H k h q)) I) J P) 0 0 25 [some (.ref m), some (.int x), some (.int (nI H)), some (.int (nI c)), some (.int (nI h)), z5] [] n kd (gI m q I) J P := by
  intro k
  induction k with
  | zero =>
    intro h c z5 q hh ht hp
    unfold paL paC
    have hpl : G_pl q ≤ 500 := by have : G_pl q = pPl q := rfl; omega
    refine r_iload dX10_plantsAll_25 rfl ?_
    refine r_bipush (v := nI 8) dX10_plantsAll_27 (by decide) ?_
    refine r_icmp_ge (tgt := 125) dX10_plantsAll_29 (by decide) (fun _ => ?_) (fun hz => absurd (show _ from (by rw [nI_leI (by omega) (by omega)]; omega)) hz)
    refine r_iconst (v := nI 0) dX10_plantsAll_125 (by decide) ?_
    refine r_istore dX10_plantsAll_126 (by decide) ?_
    have hn := wt_X10_plantsAll (n := n) (I := I) (J := J) m H c x z5 q hM hpl (G_pl q) 0 (by omega)
    rw [te_0] at hn
    exact hn
  | succ k ih =>
    intro h c z5 q hh ht hp
    have hz := paZ_pl h q
    have hb := paQ_pl M H h q
    have m4 := Nat.mod_lt (dv (lcg (pIt q))) (show 0 < 4 by omega)
    by_cases hH1 : h < H
    · by_cases e1 : dv (lcg (pIt q)) % 4 = 1
      · skip
        have hn := ih (h + 1) (c + paN H h (pIt q)) (some (.int (nI (1)))) (paQ M H h q) (by omega) (by omega) (by omega)
        unfold paL paC
        rw [← Nat.add_assoc]
        have eN : paN H h (pIt q) = 1 := by unfold paN; rw [if_pos hH1, if_pos e1]
        have eQ : paQ M H h q = pl1 h (1 + dv (lcg (lcg (pIt q))) % M) (pD (pD (paZ h q))) := by unfold paQ; rw [if_pos hH1, if_pos e1]
        rw [eN, eQ] at hn ⊢
        refine r_iload dX10_plantsAll_25 rfl ?_
        refine r_bipush (v := nI 8) dX10_plantsAll_27 (by decide) ?_
        refine r_icmp_ge (tgt := 125) dX10_plantsAll_29 (by decide) (fun hz => absurd hz (show ¬ _ from (by rw [nI_leI (by omega) (by omega)]; omega))) (fun _ => ?_)
        refine r_aload_n dX10_plantsAll_32 rfl ?_
        refine r_getR dX10_plantsAll_33 fl_X10_13 rfl (kM_0 hM) (pM_4 hM) ?_
        refine r_iload dX10_plantsAll_36 rfl ?_
        refine r_iconst (v := nI 0) dX10_plantsAll_38 (by decide) ?_
        refine r_iast dX10_plantsAll_39 (aM_4 hM) (nI_in8 8 (by omega) (by decide)) (nI_clamp (by omega)) ?_
        rw [gI_Aso, gI_Wso]
        refine r_aload_n dX10_plantsAll_40 rfl ?_
        refine r_getR dX10_plantsAll_41 fl_X10_17 rfl (kM_0 hM) (pM_5 hM) ?_
        refine r_iload dX10_plantsAll_44 rfl ?_
        refine r_iconst (v := nI 0) dX10_plantsAll_46 (by decide) ?_
        refine r_iast dX10_plantsAll_47 (aM_5 hM) (nI_in8 8 (by omega) (by decide)) (nI_clamp (by omega)) ?_
        rw [gI_Ade, gI_Wde]
        refine r_aload_n dX10_plantsAll_48 rfl ?_
        refine r_getR dX10_plantsAll_49 fl_X10_20 rfl (kM_0 hM) (pM_6 hM) ?_
        refine r_iload dX10_plantsAll_52 rfl ?_
        refine r_iconst (v := nI 0) dX10_plantsAll_54 (by decide) ?_
        refine r_iast dX10_plantsAll_55 (aM_6 hM) (nI_in8 8 (by omega) (by decide)) (nI_clamp (by omega)) ?_
        rw [gI_Ari, gI_Wri]
        refine r_aload_n dX10_plantsAll_56 rfl ?_
        refine r_getR dX10_plantsAll_57 fl_X10_23 rfl (kM_0 hM) (pM_7 hM) ?_
        refine r_iload dX10_plantsAll_60 rfl ?_
        refine r_iconst (v := nI 0) dX10_plantsAll_62 (by decide) ?_
        refine r_iast dX10_plantsAll_63 (aM_7 hM) (nI_in8 8 (by omega) (by decide)) (nI_clamp (by omega)) ?_
        rw [gI_Amu, gI_Wmu]
        refine r_aload_n dX10_plantsAll_64 rfl ?_
        refine r_getR dX10_plantsAll_65 fl_X10_29 rfl (kM_0 hM) (pM_9 hM) ?_
        refine r_iload dX10_plantsAll_68 rfl ?_
        refine r_iconst (v := nI 0) dX10_plantsAll_70 (by decide) ?_
        refine r_iast dX10_plantsAll_71 (aM_9 hM) (nI_in8 8 (by omega) (by decide)) (nI_clamp (by omega)) ?_
        rw [gI_Alk, gI_Wlk]
        change RuZ _ _ _ _ _ _ _ _ _ _ _ _ _ _ _ (gI m (paZ h q) I) _ _
        refine r_iload dX10_plantsAll_72 rfl ?_
        refine r_iload_n dX10_plantsAll_74 rfl ?_
        refine r_icmp_ge (tgt := 86) dX10_plantsAll_75 (by decide) (fun hz => absurd hz (show ¬ _ from (by rw [nI_leI (by omega) (by omega)]; omega))) (fun _ => ?_)
        refine r_aload_n dX10_plantsAll_78 rfl ?_
        refine r_iconst (v := nI 4) dX10_plantsAll_79 (by decide) ?_
        refine r_virtE (c_d m (paZ h q) 4 hM (by decide) (by decide)) lk_X10_532 mc_X10_draw dX10_plantsAll_80 (kM_0 hM) (by decide) rfl rfl (Nat.le_of_ble_eq_true rfl) ?_
        rw [hz.2.2]
        refine r_goto (tgt := 87) dX10_plantsAll_83 (by decide) ?_
        refine r_istore dX10_plantsAll_87 (by decide) ?_
        refine r_iload dX10_plantsAll_89 rfl ?_
        refine r_if_eq (tgt := 119) dX10_plantsAll_91 (by decide) (fun hz => absurd hz (show ¬ _ from by rw [e1]; decide)) (fun _ => ?_)
        refine r_iload dX10_plantsAll_94 rfl ?_
        refine r_iconst (v := nI 1) dX10_plantsAll_96 (by decide) ?_
        refine r_icmp_le (tgt := 108) dX10_plantsAll_97 (by decide) (fun _ => ?_) (fun hz => absurd (show _ from by rw [e1]; decide) hz)
        refine r_aload_n dX10_plantsAll_108 rfl ?_
        refine r_iload dX10_plantsAll_109 rfl ?_
        refine r_iload dX10_plantsAll_111 rfl ?_
        rw [e1]
        have hc := c_pl1 (n := n) (I := I) (J := J) m h M (pD (paZ h q)) hM (by omega) (by rw [(pD_pl _).2.1, hz.2.1]; omega) (by rw [(pD_pl _).1, hz.1]; omega) hMo hM0 hM20
        rw [(pD_pl _).2.2, hz.2.2] at hc
        refine r_virtV (hc) lk_X10_544 mc_X10_plants dX10_plantsAll_113 (kM_0 hM) (by decide) rfl rfl (Nat.le_of_ble_eq_true rfl) ?_
        refine r_iinc (v := nI (c + 1)) dX10_plantsAll_116 rfl (nI_inc c) ?_
        refine r_iinc (v := nI (h + 1)) dX10_plantsAll_119 rfl (nI_inc h) ?_
        refine r_goto (tgt := 25) dX10_plantsAll_122 (by decide) ?_
        exact hn
      by_cases e2 : dv (lcg (pIt q)) % 4 = 2 ∧ 0 < h
      · skip
        have hn := ih (h + 1) (c + paN H h (pIt q)) (some (.int (nI (2)))) (paQ M H h q) (by omega) (by omega) (by omega)
        unfold paL paC
        rw [← Nat.add_assoc]
        have eN : paN H h (pIt q) = 1 := by unfold paN; rw [if_pos hH1, if_neg e1, if_pos e2]
        have eQ : paQ M H h q = pl2 h (dv (lcg (lcg (pIt q))) % h) (dv (lcg (lcg (lcg (pIt q)))) % 4) (pD (pD (pD (paZ h q)))) := by unfold paQ; rw [if_pos hH1, if_neg e1, if_pos e2]
        rw [eN, eQ] at hn ⊢
        refine r_iload dX10_plantsAll_25 rfl ?_
        refine r_bipush (v := nI 8) dX10_plantsAll_27 (by decide) ?_
        refine r_icmp_ge (tgt := 125) dX10_plantsAll_29 (by decide) (fun hz => absurd hz (show ¬ _ from (by rw [nI_leI (by omega) (by omega)]; omega))) (fun _ => ?_)
        refine r_aload_n dX10_plantsAll_32 rfl ?_
        refine r_getR dX10_plantsAll_33 fl_X10_13 rfl (kM_0 hM) (pM_4 hM) ?_
        refine r_iload dX10_plantsAll_36 rfl ?_
        refine r_iconst (v := nI 0) dX10_plantsAll_38 (by decide) ?_
        refine r_iast dX10_plantsAll_39 (aM_4 hM) (nI_in8 8 (by omega) (by decide)) (nI_clamp (by omega)) ?_
        rw [gI_Aso, gI_Wso]
        refine r_aload_n dX10_plantsAll_40 rfl ?_
        refine r_getR dX10_plantsAll_41 fl_X10_17 rfl (kM_0 hM) (pM_5 hM) ?_
        refine r_iload dX10_plantsAll_44 rfl ?_
        refine r_iconst (v := nI 0) dX10_plantsAll_46 (by decide) ?_
        refine r_iast dX10_plantsAll_47 (aM_5 hM) (nI_in8 8 (by omega) (by decide)) (nI_clamp (by omega)) ?_
        rw [gI_Ade, gI_Wde]
        refine r_aload_n dX10_plantsAll_48 rfl ?_
        refine r_getR dX10_plantsAll_49 fl_X10_20 rfl (kM_0 hM) (pM_6 hM) ?_
        refine r_iload dX10_plantsAll_52 rfl ?_
        refine r_iconst (v := nI 0) dX10_plantsAll_54 (by decide) ?_
        refine r_iast dX10_plantsAll_55 (aM_6 hM) (nI_in8 8 (by omega) (by decide)) (nI_clamp (by omega)) ?_
        rw [gI_Ari, gI_Wri]
        refine r_aload_n dX10_plantsAll_56 rfl ?_
        refine r_getR dX10_plantsAll_57 fl_X10_23 rfl (kM_0 hM) (pM_7 hM) ?_
        refine r_iload dX10_plantsAll_60 rfl ?_
        refine r_iconst (v := nI 0) dX10_plantsAll_62 (by decide) ?_
        refine r_iast dX10_plantsAll_63 (aM_7 hM) (nI_in8 8 (by omega) (by decide)) (nI_clamp (by omega)) ?_
        rw [gI_Amu, gI_Wmu]
        refine r_aload_n dX10_plantsAll_64 rfl ?_
        refine r_getR dX10_plantsAll_65 fl_X10_29 rfl (kM_0 hM) (pM_9 hM) ?_
        refine r_iload dX10_plantsAll_68 rfl ?_
        refine r_iconst (v := nI 0) dX10_plantsAll_70 (by decide) ?_
        refine r_iast dX10_plantsAll_71 (aM_9 hM) (nI_in8 8 (by omega) (by decide)) (nI_clamp (by omega)) ?_
        rw [gI_Alk, gI_Wlk]
        change RuZ _ _ _ _ _ _ _ _ _ _ _ _ _ _ _ (gI m (paZ h q) I) _ _
        refine r_iload dX10_plantsAll_72 rfl ?_
        refine r_iload_n dX10_plantsAll_74 rfl ?_
        refine r_icmp_ge (tgt := 86) dX10_plantsAll_75 (by decide) (fun hz => absurd hz (show ¬ _ from (by rw [nI_leI (by omega) (by omega)]; omega))) (fun _ => ?_)
        refine r_aload_n dX10_plantsAll_78 rfl ?_
        refine r_iconst (v := nI 4) dX10_plantsAll_79 (by decide) ?_
        refine r_virtE (c_d m (paZ h q) 4 hM (by decide) (by decide)) lk_X10_532 mc_X10_draw dX10_plantsAll_80 (kM_0 hM) (by decide) rfl rfl (Nat.le_of_ble_eq_true rfl) ?_
        rw [hz.2.2]
        refine r_goto (tgt := 87) dX10_plantsAll_83 (by decide) ?_
        refine r_istore dX10_plantsAll_87 (by decide) ?_
        refine r_iload dX10_plantsAll_89 rfl ?_
        refine r_if_eq (tgt := 119) dX10_plantsAll_91 (by decide) (fun hz => absurd hz (show ¬ _ from by rw [e2.1]; decide)) (fun _ => ?_)
        refine r_iload dX10_plantsAll_94 rfl ?_
        refine r_iconst (v := nI 1) dX10_plantsAll_96 (by decide) ?_
        refine r_icmp_le (tgt := 108) dX10_plantsAll_97 (by decide) (fun hz => absurd hz (show ¬ _ from by rw [e2.1]; decide)) (fun _ => ?_)
        refine r_iload dX10_plantsAll_100 rfl ?_
        refine r_if_ne (tgt := 108) dX10_plantsAll_102 (by decide) (fun _ => ?_) (fun hz => absurd hz (show ¬ _ from nI_ne0 e2.2 (by omega)))
        refine r_aload_n dX10_plantsAll_108 rfl ?_
        refine r_iload dX10_plantsAll_109 rfl ?_
        refine r_iload dX10_plantsAll_111 rfl ?_
        rw [e2.1]
        have hc := c_pl2 (n := n) (I := I) (J := J) m h (pD (paZ h q)) hM (by omega) (by rw [(pD_pl _).2.1, hz.2.1]; omega) (by rw [(pD_pl _).1, hz.1]; omega) e2.2
        rw [(pD_pl _).2.2, hz.2.2] at hc
        refine r_virtV (hc) lk_X10_544 mc_X10_plants dX10_plantsAll_113 (kM_0 hM) (by decide) rfl rfl (Nat.le_of_ble_eq_true rfl) ?_
        refine r_iinc (v := nI (c + 1)) dX10_plantsAll_116 rfl (nI_inc c) ?_
        refine r_iinc (v := nI (h + 1)) dX10_plantsAll_119 rfl (nI_inc h) ?_
        refine r_goto (tgt := 25) dX10_plantsAll_122 (by decide) ?_
        exact hn
      by_cases e3 : dv (lcg (pIt q)) % 4 = 3 ∧ 0 < h
      · skip
        have hn := ih (h + 1) (c + paN H h (pIt q)) (some (.int (nI (3)))) (paQ M H h q) (by omega) (by omega) (by omega)
        unfold paL paC
        rw [← Nat.add_assoc]
        have eN : paN H h (pIt q) = 1 := by unfold paN; rw [if_pos hH1, if_neg e1, if_neg e2, if_pos e3]
        have eQ : paQ M H h q = pl3 h (dv (lcg (lcg (pIt q))) % h) (pD (pD (paZ h q))) := by unfold paQ; rw [if_pos hH1, if_neg e1, if_neg e2, if_pos e3]
        rw [eN, eQ] at hn ⊢
        refine r_iload dX10_plantsAll_25 rfl ?_
        refine r_bipush (v := nI 8) dX10_plantsAll_27 (by decide) ?_
        refine r_icmp_ge (tgt := 125) dX10_plantsAll_29 (by decide) (fun hz => absurd hz (show ¬ _ from (by rw [nI_leI (by omega) (by omega)]; omega))) (fun _ => ?_)
        refine r_aload_n dX10_plantsAll_32 rfl ?_
        refine r_getR dX10_plantsAll_33 fl_X10_13 rfl (kM_0 hM) (pM_4 hM) ?_
        refine r_iload dX10_plantsAll_36 rfl ?_
        refine r_iconst (v := nI 0) dX10_plantsAll_38 (by decide) ?_
        refine r_iast dX10_plantsAll_39 (aM_4 hM) (nI_in8 8 (by omega) (by decide)) (nI_clamp (by omega)) ?_
        rw [gI_Aso, gI_Wso]
        refine r_aload_n dX10_plantsAll_40 rfl ?_
        refine r_getR dX10_plantsAll_41 fl_X10_17 rfl (kM_0 hM) (pM_5 hM) ?_
        refine r_iload dX10_plantsAll_44 rfl ?_
        refine r_iconst (v := nI 0) dX10_plantsAll_46 (by decide) ?_
        refine r_iast dX10_plantsAll_47 (aM_5 hM) (nI_in8 8 (by omega) (by decide)) (nI_clamp (by omega)) ?_
        rw [gI_Ade, gI_Wde]
        refine r_aload_n dX10_plantsAll_48 rfl ?_
        refine r_getR dX10_plantsAll_49 fl_X10_20 rfl (kM_0 hM) (pM_6 hM) ?_
        refine r_iload dX10_plantsAll_52 rfl ?_
        refine r_iconst (v := nI 0) dX10_plantsAll_54 (by decide) ?_
        refine r_iast dX10_plantsAll_55 (aM_6 hM) (nI_in8 8 (by omega) (by decide)) (nI_clamp (by omega)) ?_
        rw [gI_Ari, gI_Wri]
        refine r_aload_n dX10_plantsAll_56 rfl ?_
        refine r_getR dX10_plantsAll_57 fl_X10_23 rfl (kM_0 hM) (pM_7 hM) ?_
        refine r_iload dX10_plantsAll_60 rfl ?_
        refine r_iconst (v := nI 0) dX10_plantsAll_62 (by decide) ?_
        refine r_iast dX10_plantsAll_63 (aM_7 hM) (nI_in8 8 (by omega) (by decide)) (nI_clamp (by omega)) ?_
        rw [gI_Amu, gI_Wmu]
        refine r_aload_n dX10_plantsAll_64 rfl ?_
        refine r_getR dX10_plantsAll_65 fl_X10_29 rfl (kM_0 hM) (pM_9 hM) ?_
        refine r_iload dX10_plantsAll_68 rfl ?_
        refine r_iconst (v := nI 0) dX10_plantsAll_70 (by decide) ?_
        refine r_iast dX10_plantsAll_71 (aM_9 hM) (nI_in8 8 (by omega) (by decide)) (nI_clamp (by omega)) ?_
        rw [gI_Alk, gI_Wlk]
        change RuZ _ _ _ _ _ _ _ _ _ _ _ _ _ _ _ (gI m (paZ h q) I) _ _
        refine r_iload dX10_plantsAll_72 rfl ?_
        refine r_iload_n dX10_plantsAll_74 rfl ?_
        refine r_icmp_ge (tgt := 86) dX10_plantsAll_75 (by decide) (fun hz => absurd hz (show ¬ _ from (by rw [nI_leI (by omega) (by omega)]; omega))) (fun _ => ?_)
        refine r_aload_n dX10_plantsAll_78 rfl ?_
        refine r_iconst (v := nI 4) dX10_plantsAll_79 (by decide) ?_
        refine r_virtE (c_d m (paZ h q) 4 hM (by decide) (by decide)) lk_X10_532 mc_X10_draw dX10_plantsAll_80 (kM_0 hM) (by decide) rfl rfl (Nat.le_of_ble_eq_true rfl) ?_
        rw [hz.2.2]
        refine r_goto (tgt := 87) dX10_plantsAll_83 (by decide) ?_
        refine r_istore dX10_plantsAll_87 (by decide) ?_
        refine r_iload dX10_plantsAll_89 rfl ?_
        refine r_if_eq (tgt := 119) dX10_plantsAll_91 (by decide) (fun hz => absurd hz (show ¬ _ from by rw [e3.1]; decide)) (fun _ => ?_)
        refine r_iload dX10_plantsAll_94 rfl ?_
        refine r_iconst (v := nI 1) dX10_plantsAll_96 (by decide) ?_
        refine r_icmp_le (tgt := 108) dX10_plantsAll_97 (by decide) (fun hz => absurd hz (show ¬ _ from by rw [e3.1]; decide)) (fun _ => ?_)
        refine r_iload dX10_plantsAll_100 rfl ?_
        refine r_if_ne (tgt := 108) dX10_plantsAll_102 (by decide) (fun _ => ?_) (fun hz => absurd hz (show ¬ _ from nI_ne0 e3.2 (by omega)))
        refine r_aload_n dX10_plantsAll_108 rfl ?_
        refine r_iload dX10_plantsAll_109 rfl ?_
        refine r_iload dX10_plantsAll_111 rfl ?_
        rw [e3.1]
        have hc := c_pl3 (n := n) (I := I) (J := J) m h (pD (paZ h q)) hM (by omega) (by rw [(pD_pl _).2.1, hz.2.1]; omega) (by rw [(pD_pl _).1, hz.1]; omega) e3.2
        rw [(pD_pl _).2.2, hz.2.2] at hc
        refine r_virtV (hc) lk_X10_544 mc_X10_plants dX10_plantsAll_113 (kM_0 hM) (by decide) rfl rfl (Nat.le_of_ble_eq_true rfl) ?_
        refine r_iinc (v := nI (c + 1)) dX10_plantsAll_116 rfl (nI_inc c) ?_
        refine r_iinc (v := nI (h + 1)) dX10_plantsAll_119 rfl (nI_inc h) ?_
        refine r_goto (tgt := 25) dX10_plantsAll_122 (by decide) ?_
        exact hn
      by_cases e0 : dv (lcg (pIt q)) % 4 = 0
      · skip
        have hn := ih (h + 1) (c + paN H h (pIt q)) (some (.int (nI (dv (lcg (pIt q)) % 4)))) (paQ M H h q) (by omega) (by omega) (by omega)
        unfold paL paC
        rw [← Nat.add_assoc]
        have eN : paN H h (pIt q) = 0 := by unfold paN; rw [if_pos hH1, if_neg e1, if_neg e2, if_neg e3]
        have eQ : paQ M H h q = pD (paZ h q) := by unfold paQ; rw [if_pos hH1, if_neg e1, if_neg e2, if_neg e3]
        rw [eN, eQ] at hn ⊢
        refine r_iload dX10_plantsAll_25 rfl ?_
        refine r_bipush (v := nI 8) dX10_plantsAll_27 (by decide) ?_
        refine r_icmp_ge (tgt := 125) dX10_plantsAll_29 (by decide) (fun hz => absurd hz (show ¬ _ from (by rw [nI_leI (by omega) (by omega)]; omega))) (fun _ => ?_)
        refine r_aload_n dX10_plantsAll_32 rfl ?_
        refine r_getR dX10_plantsAll_33 fl_X10_13 rfl (kM_0 hM) (pM_4 hM) ?_
        refine r_iload dX10_plantsAll_36 rfl ?_
        refine r_iconst (v := nI 0) dX10_plantsAll_38 (by decide) ?_
        refine r_iast dX10_plantsAll_39 (aM_4 hM) (nI_in8 8 (by omega) (by decide)) (nI_clamp (by omega)) ?_
        rw [gI_Aso, gI_Wso]
        refine r_aload_n dX10_plantsAll_40 rfl ?_
        refine r_getR dX10_plantsAll_41 fl_X10_17 rfl (kM_0 hM) (pM_5 hM) ?_
        refine r_iload dX10_plantsAll_44 rfl ?_
        refine r_iconst (v := nI 0) dX10_plantsAll_46 (by decide) ?_
        refine r_iast dX10_plantsAll_47 (aM_5 hM) (nI_in8 8 (by omega) (by decide)) (nI_clamp (by omega)) ?_
        rw [gI_Ade, gI_Wde]
        refine r_aload_n dX10_plantsAll_48 rfl ?_
        refine r_getR dX10_plantsAll_49 fl_X10_20 rfl (kM_0 hM) (pM_6 hM) ?_
        refine r_iload dX10_plantsAll_52 rfl ?_
        refine r_iconst (v := nI 0) dX10_plantsAll_54 (by decide) ?_
        refine r_iast dX10_plantsAll_55 (aM_6 hM) (nI_in8 8 (by omega) (by decide)) (nI_clamp (by omega)) ?_
        rw [gI_Ari, gI_Wri]
        refine r_aload_n dX10_plantsAll_56 rfl ?_
        refine r_getR dX10_plantsAll_57 fl_X10_23 rfl (kM_0 hM) (pM_7 hM) ?_
        refine r_iload dX10_plantsAll_60 rfl ?_
        refine r_iconst (v := nI 0) dX10_plantsAll_62 (by decide) ?_
        refine r_iast dX10_plantsAll_63 (aM_7 hM) (nI_in8 8 (by omega) (by decide)) (nI_clamp (by omega)) ?_
        rw [gI_Amu, gI_Wmu]
        refine r_aload_n dX10_plantsAll_64 rfl ?_
        refine r_getR dX10_plantsAll_65 fl_X10_29 rfl (kM_0 hM) (pM_9 hM) ?_
        refine r_iload dX10_plantsAll_68 rfl ?_
        refine r_iconst (v := nI 0) dX10_plantsAll_70 (by decide) ?_
        refine r_iast dX10_plantsAll_71 (aM_9 hM) (nI_in8 8 (by omega) (by decide)) (nI_clamp (by omega)) ?_
        rw [gI_Alk, gI_Wlk]
        change RuZ _ _ _ _ _ _ _ _ _ _ _ _ _ _ _ (gI m (paZ h q) I) _ _
        refine r_iload dX10_plantsAll_72 rfl ?_
        refine r_iload_n dX10_plantsAll_74 rfl ?_
        refine r_icmp_ge (tgt := 86) dX10_plantsAll_75 (by decide) (fun hz => absurd hz (show ¬ _ from (by rw [nI_leI (by omega) (by omega)]; omega))) (fun _ => ?_)
        refine r_aload_n dX10_plantsAll_78 rfl ?_
        refine r_iconst (v := nI 4) dX10_plantsAll_79 (by decide) ?_
        refine r_virtE (c_d m (paZ h q) 4 hM (by decide) (by decide)) lk_X10_532 mc_X10_draw dX10_plantsAll_80 (kM_0 hM) (by decide) rfl rfl (Nat.le_of_ble_eq_true rfl) ?_
        rw [hz.2.2]
        refine r_goto (tgt := 87) dX10_plantsAll_83 (by decide) ?_
        refine r_istore dX10_plantsAll_87 (by decide) ?_
        refine r_iload dX10_plantsAll_89 rfl ?_
        refine r_if_eq (tgt := 119) dX10_plantsAll_91 (by decide) (fun _ => ?_) (fun hz => absurd (show _ from by rw [e0]; rfl) hz)
        refine r_iinc (v := nI (h + 1)) dX10_plantsAll_119 rfl (nI_inc h) ?_
        refine r_goto (tgt := 25) dX10_plantsAll_122 (by decide) ?_
        exact hn
      · skip
        have hn := ih (h + 1) (c + paN H h (pIt q)) (some (.int (nI (dv (lcg (pIt q)) % 4)))) (paQ M H h q) (by omega) (by omega) (by omega)
        unfold paL paC
        rw [← Nat.add_assoc]
        have eN : paN H h (pIt q) = 0 := by unfold paN; rw [if_pos hH1, if_neg e1, if_neg e2, if_neg e3]
        have eQ : paQ M H h q = pD (paZ h q) := by unfold paQ; rw [if_pos hH1, if_neg e1, if_neg e2, if_neg e3]
        rw [eN, eQ] at hn ⊢
        refine r_iload dX10_plantsAll_25 rfl ?_
        refine r_bipush (v := nI 8) dX10_plantsAll_27 (by decide) ?_
        refine r_icmp_ge (tgt := 125) dX10_plantsAll_29 (by decide) (fun hz => absurd hz (show ¬ _ from (by rw [nI_leI (by omega) (by omega)]; omega))) (fun _ => ?_)
        refine r_aload_n dX10_plantsAll_32 rfl ?_
        refine r_getR dX10_plantsAll_33 fl_X10_13 rfl (kM_0 hM) (pM_4 hM) ?_
        refine r_iload dX10_plantsAll_36 rfl ?_
        refine r_iconst (v := nI 0) dX10_plantsAll_38 (by decide) ?_
        refine r_iast dX10_plantsAll_39 (aM_4 hM) (nI_in8 8 (by omega) (by decide)) (nI_clamp (by omega)) ?_
        rw [gI_Aso, gI_Wso]
        refine r_aload_n dX10_plantsAll_40 rfl ?_
        refine r_getR dX10_plantsAll_41 fl_X10_17 rfl (kM_0 hM) (pM_5 hM) ?_
        refine r_iload dX10_plantsAll_44 rfl ?_
        refine r_iconst (v := nI 0) dX10_plantsAll_46 (by decide) ?_
        refine r_iast dX10_plantsAll_47 (aM_5 hM) (nI_in8 8 (by omega) (by decide)) (nI_clamp (by omega)) ?_
        rw [gI_Ade, gI_Wde]
        refine r_aload_n dX10_plantsAll_48 rfl ?_
        refine r_getR dX10_plantsAll_49 fl_X10_20 rfl (kM_0 hM) (pM_6 hM) ?_
        refine r_iload dX10_plantsAll_52 rfl ?_
        refine r_iconst (v := nI 0) dX10_plantsAll_54 (by decide) ?_
        refine r_iast dX10_plantsAll_55 (aM_6 hM) (nI_in8 8 (by omega) (by decide)) (nI_clamp (by omega)) ?_
        rw [gI_Ari, gI_Wri]
        refine r_aload_n dX10_plantsAll_56 rfl ?_
        refine r_getR dX10_plantsAll_57 fl_X10_23 rfl (kM_0 hM) (pM_7 hM) ?_
        refine r_iload dX10_plantsAll_60 rfl ?_
        refine r_iconst (v := nI 0) dX10_plantsAll_62 (by decide) ?_
        refine r_iast dX10_plantsAll_63 (aM_7 hM) (nI_in8 8 (by omega) (by decide)) (nI_clamp (by omega)) ?_
        rw [gI_Amu, gI_Wmu]
        refine r_aload_n dX10_plantsAll_64 rfl ?_
        refine r_getR dX10_plantsAll_65 fl_X10_29 rfl (kM_0 hM) (pM_9 hM) ?_
        refine r_iload dX10_plantsAll_68 rfl ?_
        refine r_iconst (v := nI 0) dX10_plantsAll_70 (by decide) ?_
        refine r_iast dX10_plantsAll_71 (aM_9 hM) (nI_in8 8 (by omega) (by decide)) (nI_clamp (by omega)) ?_
        rw [gI_Alk, gI_Wlk]
        change RuZ _ _ _ _ _ _ _ _ _ _ _ _ _ _ _ (gI m (paZ h q) I) _ _
        refine r_iload dX10_plantsAll_72 rfl ?_
        refine r_iload_n dX10_plantsAll_74 rfl ?_
        refine r_icmp_ge (tgt := 86) dX10_plantsAll_75 (by decide) (fun hz => absurd hz (show ¬ _ from (by rw [nI_leI (by omega) (by omega)]; omega))) (fun _ => ?_)
        refine r_aload_n dX10_plantsAll_78 rfl ?_
        refine r_iconst (v := nI 4) dX10_plantsAll_79 (by decide) ?_
        refine r_virtE (c_d m (paZ h q) 4 hM (by decide) (by decide)) lk_X10_532 mc_X10_draw dX10_plantsAll_80 (kM_0 hM) (by decide) rfl rfl (Nat.le_of_ble_eq_true rfl) ?_
        rw [hz.2.2]
        refine r_goto (tgt := 87) dX10_plantsAll_83 (by decide) ?_
        refine r_istore dX10_plantsAll_87 (by decide) ?_
        refine r_iload dX10_plantsAll_89 rfl ?_
        refine r_if_eq (tgt := 119) dX10_plantsAll_91 (by decide) (fun hz => absurd hz (show ¬ _ from nI_ne0 (by omega) (by omega))) (fun _ => ?_)
        refine r_iload dX10_plantsAll_94 rfl ?_
        refine r_iconst (v := nI 1) dX10_plantsAll_96 (by decide) ?_
        refine r_icmp_le (tgt := 108) dX10_plantsAll_97 (by decide) (fun hz => absurd hz (show ¬ _ from (by rw [nI_leI (by omega) (by omega)]; omega))) (fun _ => ?_)
        refine r_iload dX10_plantsAll_100 rfl ?_
        refine r_if_ne (tgt := 108) dX10_plantsAll_102 (by decide) (fun hz => absurd (show _ from by rw [show h = 0 by omega]; rfl) hz) (fun _ => ?_)
        refine r_goto (tgt := 119) dX10_plantsAll_105 (by decide) ?_
        refine r_iinc (v := nI (h + 1)) dX10_plantsAll_119 rfl (nI_inc h) ?_
        refine r_goto (tgt := 25) dX10_plantsAll_122 (by decide) ?_
        exact hn
    · skip
      have hn := ih (h + 1) (c + paN H h (pIt q)) (some (.int (nI 0))) (paQ M H h q) (by omega) (by omega) (by omega)
      unfold paL paC
      rw [← Nat.add_assoc]
      have eN : paN H h (pIt q) = 0 := by unfold paN; rw [if_neg hH1]
      have eQ : paQ M H h q = paZ h q := by unfold paQ; rw [if_neg hH1]
      rw [eN, eQ] at hn ⊢
      refine r_iload dX10_plantsAll_25 rfl ?_
      refine r_bipush (v := nI 8) dX10_plantsAll_27 (by decide) ?_
      refine r_icmp_ge (tgt := 125) dX10_plantsAll_29 (by decide) (fun hz => absurd hz (show ¬ _ from (by rw [nI_leI (by omega) (by omega)]; omega))) (fun _ => ?_)
      refine r_aload_n dX10_plantsAll_32 rfl ?_
      refine r_getR dX10_plantsAll_33 fl_X10_13 rfl (kM_0 hM) (pM_4 hM) ?_
      refine r_iload dX10_plantsAll_36 rfl ?_
      refine r_iconst (v := nI 0) dX10_plantsAll_38 (by decide) ?_
      refine r_iast dX10_plantsAll_39 (aM_4 hM) (nI_in8 8 (by omega) (by decide)) (nI_clamp (by omega)) ?_
      rw [gI_Aso, gI_Wso]
      refine r_aload_n dX10_plantsAll_40 rfl ?_
      refine r_getR dX10_plantsAll_41 fl_X10_17 rfl (kM_0 hM) (pM_5 hM) ?_
      refine r_iload dX10_plantsAll_44 rfl ?_
      refine r_iconst (v := nI 0) dX10_plantsAll_46 (by decide) ?_
      refine r_iast dX10_plantsAll_47 (aM_5 hM) (nI_in8 8 (by omega) (by decide)) (nI_clamp (by omega)) ?_
      rw [gI_Ade, gI_Wde]
      refine r_aload_n dX10_plantsAll_48 rfl ?_
      refine r_getR dX10_plantsAll_49 fl_X10_20 rfl (kM_0 hM) (pM_6 hM) ?_
      refine r_iload dX10_plantsAll_52 rfl ?_
      refine r_iconst (v := nI 0) dX10_plantsAll_54 (by decide) ?_
      refine r_iast dX10_plantsAll_55 (aM_6 hM) (nI_in8 8 (by omega) (by decide)) (nI_clamp (by omega)) ?_
      rw [gI_Ari, gI_Wri]
      refine r_aload_n dX10_plantsAll_56 rfl ?_
      refine r_getR dX10_plantsAll_57 fl_X10_23 rfl (kM_0 hM) (pM_7 hM) ?_
      refine r_iload dX10_plantsAll_60 rfl ?_
      refine r_iconst (v := nI 0) dX10_plantsAll_62 (by decide) ?_
      refine r_iast dX10_plantsAll_63 (aM_7 hM) (nI_in8 8 (by omega) (by decide)) (nI_clamp (by omega)) ?_
      rw [gI_Amu, gI_Wmu]
      refine r_aload_n dX10_plantsAll_64 rfl ?_
      refine r_getR dX10_plantsAll_65 fl_X10_29 rfl (kM_0 hM) (pM_9 hM) ?_
      refine r_iload dX10_plantsAll_68 rfl ?_
      refine r_iconst (v := nI 0) dX10_plantsAll_70 (by decide) ?_
      refine r_iast dX10_plantsAll_71 (aM_9 hM) (nI_in8 8 (by omega) (by decide)) (nI_clamp (by omega)) ?_
      rw [gI_Alk, gI_Wlk]
      change RuZ _ _ _ _ _ _ _ _ _ _ _ _ _ _ _ (gI m (paZ h q) I) _ _
      refine r_iload dX10_plantsAll_72 rfl ?_
      refine r_iload_n dX10_plantsAll_74 rfl ?_
      refine r_icmp_ge (tgt := 86) dX10_plantsAll_75 (by decide) (fun _ => ?_) (fun hz => absurd (show _ from (by rw [nI_leI (by omega) (by omega)]; omega)) hz)
      refine r_iconst (v := nI 0) dX10_plantsAll_86 (by decide) ?_
      refine r_istore dX10_plantsAll_87 (by decide) ?_
      refine r_iload dX10_plantsAll_89 rfl ?_
      refine r_if_eq (tgt := 119) dX10_plantsAll_91 (by decide) (fun _ => ?_) (fun hz => absurd (show _ from rfl) hz)
      refine r_iinc (v := nI (h + 1)) dX10_plantsAll_119 rfl (nI_inc h) ?_
      refine r_goto (tgt := 25) dX10_plantsAll_122 (by decide) ?_
      exact hn

set_option maxHeartbeats 4000000 in
set_option maxRecDepth 100000 in
theorem c_X10_plantsAll (m M H : Nat) (x : Int32) {n : Nat} {kd : mK} {I : mI} {J : mJ} {P : mP} (hM : kM kd P m) (hMo : I m 2 = nI M) (hM0 : 0 < M) (hM20 : M ≤ 20) (hH : H ≤ 8) : Ct yX10_plantsAll cX10_plantsAll 6 (some .int) 5 0 0 [.ref m, .int x, .int (nI H)] n kd I J P (am_is (some (.int (nI (paC M H 8 0 (S_pl 0 (S_tp 0 (S_ho (nI H) (S_it x (psOf I m))))))))) n kd (gI m (paT (paL M H 8 0 (S_pl 0 (S_tp 0 (S_ho (nI H) (S_it x (psOf I m))))))) I) J P) := by
  refine ct_of 3 (by decide +kernel) (Nat.le_of_ble_eq_true rfl) rfl ?_
  have e9 := gI_self m I
  suffices h9 : Ru yX10_plantsAll.cls cX10_plantsAll 6 (some .int) yX10_plantsAll.name 5 (am_is (some (.int (nI (paC M H 8 0 (S_pl 0 (S_tp 0 (S_ho (nI H) (S_it x (psOf I m))))))))) n kd (gI m (paT (paL M H 8 0 (S_pl 0 (S_tp 0 (S_ho (nI H) (S_it x (psOf I m))))))) I) J P) 0 0 0 [some (.ref m), some (.int x), some (.int (nI H)), none, none, none] [] n kd (gI m (psOf I m) I) J P by rw [e9] at h9; exact h9
  refine r_aload_n dX10_plantsAll_0 rfl ?_
  refine r_iload_n dX10_plantsAll_1 rfl ?_
  refine r_putI dX10_plantsAll_2 fl_X10_529 rfl rfl (kM_0 hM) ?_
  rw [gI_Pit]
  refine r_aload_n dX10_plantsAll_5 rfl ?_
  refine r_iload_n dX10_plantsAll_6 rfl ?_
  refine r_putI dX10_plantsAll_7 fl_X10_350 rfl rfl (kM_0 hM) ?_
  rw [gI_Pho]
  refine r_aload_n dX10_plantsAll_10 rfl ?_
  refine r_iconst (v := nI 0) dX10_plantsAll_11 (by decide) ?_
  refine r_putI dX10_plantsAll_12 fl_X10_275 rfl rfl (kM_0 hM) ?_
  rw [gI_Ptp (x := 0)]
  refine r_aload_n dX10_plantsAll_15 rfl ?_
  refine r_iconst (v := nI 0) dX10_plantsAll_16 (by decide) ?_
  refine r_putI dX10_plantsAll_17 fl_X10_505 rfl rfl (kM_0 hM) ?_
  rw [gI_Ppl (x := 0)]
  refine r_iconst (v := nI 0) dX10_plantsAll_20 (by decide) ?_
  refine r_istore_n dX10_plantsAll_21 (by decide) ?_
  refine r_iconst (v := nI 0) dX10_plantsAll_22 (by decide) ?_
  refine r_istore dX10_plantsAll_23 (by decide) ?_
  have hn := wl_X10_plantsAll (n := n) (I := I) (J := J) m M H x hM hMo hM0 hM20 hH 8 0 0 none (S_pl 0 (S_tp 0 (S_ho (nI H) (S_it x (psOf I m))))) (by omega) (by show 0 ≤ _; omega) (by show 0 ≤ _; omega)
  rw [Nat.zero_add] at hn
  exact hn


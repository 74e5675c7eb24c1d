/-! STREET: the reference reads a house -/
def hFr (m : Nat) (I I' : mI) (J J' : mJ) : Prop := (∀ a, (a < m ∨ m + 22 < a ∨ (m < a ∧ a < m + 13)) → I' a = I a) ∧ (∀ j, (j < 16 ∨ j = 18 ∨ j = 19 ∨ 34 < j) → I' m j = I m j) ∧ (∀ a, a ≠ m → J' a = J a) ∧ (∀ j, j ≠ 26 → J' m j = J m j) ∧ kP m I I'
theorem hFr.rf {m : Nat} {I : mI} {J : mJ} : hFr m I I J J := ⟨fun _ _ => rfl, fun _ _ => rfl, fun _ _ => rfl, fun _ _ => rfl, kP.same rfl rfl⟩
theorem hFr.tr {m : Nat} {I I1 I2 : mI} {J J1 J2 : mJ} (h : hFr m I I1 J J1) (g : hFr m I1 I2 J1 J2) : hFr m I I2 J J2 := ⟨fun a x => (g.1 a x).trans (h.1 a x), fun j x => (g.2.1 j x).trans (h.2.1 j x), fun a x => (g.2.2.1 a x).trans (h.2.2.1 a x), fun j x => (g.2.2.2.1 j x).trans (h.2.2.2.1 j x), h.2.2.2.2.tr g.2.2.2.2⟩
theorem nuFr.h {m : Nat} {I I1 : mI} {J J1 : mJ} (h : nuFr m I I1 J J1) : hFr m I I1 J J1 := ⟨fun a x => h.1 a (by omega), fun j x => h.2.1 j (by omega) (by omega) (by omega), h.2.2.1, h.2.2.2⟩
theorem eFr.h {m : Nat} {I I1 : mI} {J J1 : mJ} (h : eFr m I I1 J J1) : hFr m I I1 J J1 := ⟨fun a x => h.1 a (by omega) (by omega) (by omega) (by omega), fun j x => h.2.1 j (by omega) (by omega) (by omega) (by omega), h.2.2.1, h.2.2.2⟩
theorem hFr.pA {m k : Nat} {I : mI} {J : mJ} {R : Nat → Int32} (h : 13 ≤ k ∧ k ≤ 22) : hFr m I (va_up I (m + k) R) J J := ⟨fun a x => am_up_n _ _ (by omega), fun j x => by rw [am_up_n _ _ (by omega)], fun _ _ => rfl, fun _ _ => rfl, kP.same (by rw [am_up_n _ _ (by omega)]) (by rw [am_up_n _ _ (by omega)])⟩
theorem hFr.pI {m k : Nat} {I : mI} {J : mJ} {x : Int32} (h : 20 ≤ k ∧ k ≤ 34) : hFr m I (va_up I m (va_up (I m) k x)) J J := ⟨fun a x => am_up_n _ _ (by omega), fun j x => by rw [am_up_s, am_up_n _ _ (by omega)], fun _ _ => rfl, fun _ _ => rfl, kP.same (by rw [am_up_s, am_up_n _ _ (by omega)]) (by rw [am_up_s, am_up_n _ _ (by omega)])⟩
def rRow (m len top : Nat) (X : Nat → Int32) (I : mI) (cs : Nat → List Nat) (tx : Nat → List Int32) (x : Nat) : Prop := I (m + 15) x = (if cs x = [] then nI 0 else nI 1) ∧ I (m + 17) x = nI (lkm 0 (cs x) % 256) ∧ (cs x ≠ [] → (∃ a, I (m + 16) x = nI a ∧ ∀ Cd : Nat → Int32, (∀ k, k < top → Cd k = I (m + 20) k) → rcs Cd (cs x) a) ∧ ∃ p q, I (m + 18) x = nI p ∧ I (m + 19) x = nI (p + q) ∧ p + q ≤ len ∧ (∀ k, p ≤ k → k < p + q → okB (X k)) ∧ wrT X q p (nI 32) false = tx x)
theorem rRow.cg {m len top top2 x : Nat} {X : Nat → Int32} {I I' : mI} {cs cs' : Nat → List Nat} {tx tx' : Nat → List Int32} (h15 : I' (m + 15) x = I (m + 15) x) (h16 : I' (m + 16) x = I (m + 16) x) (h17 : I' (m + 17) x = I (m + 17) x) (h18 : I' (m + 18) x = I (m + 18) x) (h19 : I' (m + 19) x = I (m + 19) x) (ht : top ≤ top2) (h20 : ∀ k, k < top → I' (m + 20) k = I (m + 20) k) (hc : cs' x = cs x) (hx : tx' x = tx x) (h : rRow m len top X I cs tx x) : rRow m len top2 X I' cs' tx' x := by
  unfold rRow at h ⊢
  rw [h15, h16, h17, h18, h19, hc, hx]
  obtain ⟨g1, g2, g3⟩ := h
  refine ⟨g1, g2, fun hne => ?_⟩
  obtain ⟨⟨a, a1, a2⟩, g5⟩ := g3 hne
  exact ⟨⟨a, a1, fun Cd hCd => a2 Cd (fun k hk => by rw [hCd k (by omega), h20 k hk])⟩, g5⟩
/-- sons and debts as told -/
def rSD (m n : Nat) (I : mI) (H : Nat) (so de : Nat → Int32) : Prop := ∀ x, x < 8 → ∃ u v, u ≤ 99 ∧ v ≤ 99 ∧ so x = nI u ∧ de x = nI v ∧ (x < n → I (m + 13) x = nI u ∧ I (m + 14) x = nI v) ∧ (H ≤ x → u = 0 ∧ v = 0)
/-- the class's reader and the reference's stand at the same place, all good -/
def rLn (m len : Nat) (X : Nat → Int32) (sl : Nat) (I : mI) (J : mJ) (R : RS) (cs : Nat → List Nat) (tx : Nat → List Int32) : Prop := (rf R = nI 0 ∧ rA m (tkT len X) I J R.1) ∧ ((rQ R).1 ≤ 8 ∧ I m 27 = nI (rQ R).1 ∧ I m 28 = (rQ R).2.1 ∧ I m 33 = (rQ R).2.2.1 ∧ I m 34 = R.2.2.2.1 ∧ (∃ b1, (rQ R).2.2.1 = bz b1) ∧ (∃ b2, R.2.2.2.1 = bz b2) ∧ ∃ M, (rQ R).2.1 = nI M ∧ 2 ≤ M ∧ M ≤ 20) ∧ (∃ top, I m 30 = nI top ∧ top ≤ 2 * R.1 ∧ ∀ x, x < (rQ R).1 → rRow m len top X I cs tx x) ∧ (qC cs tx (rQ R).1 (rQ R) ∧ ofs cs (rQ R).1 ≤ R.1 ∧ (rQ R).2.2.2.2.2.1 ≤ 2 * (tkT len X).2.2.2.1 R.1 ∧ txS cs tx (rQ R).1 ≤ 2 * (tkT len X).2.2.2.1 R.1 + sl) ∧ (∀ x, x < (rQ R).1 → (cs x ≠ [] → okd (cs x) 0) ∧ (∀ c ∈ cs x, cOK c) ∧ ∀ c ∈ tx x, c.toInt8.toInt32 = c) ∧ rSD m (rQ R).1 I (rQ R).1 R.2.2.2.2.1 R.2.2.2.2.2.1
/-- what a step of reading leaves -/
def rPo (m len : Nat) (X : Nat → Int32) (sl : Nat) (S : RS) (I : mI) (J : mJ) : Prop := (rf S = nI 0 → ∃ cs tx, rLn m len X sl I J S cs tx) ∧ (¬ rf S = nI 0 → I m 16 = rf S ∧ I m 17 = S.2.2.1)
theorem txS_cg {cs cs' : Nat → List Nat} {tx tx' : Nat → List Int32} : ∀ H, (∀ x, x < H → cs' x = cs x ∧ tx' x = tx x) → txS cs' tx' H = txS cs tx H
  | 0, _ => rfl
  | H + 1, h => by
    show txS cs' tx' H + (12 + if cs' H = [] then 0 else 6 + (tx' H).length) = txS cs tx H + (12 + if cs H = [] then 0 else 6 + (tx H).length)
    rw [txS_cg H (fun x hx => h x (by omega)), (h H (by omega)).1, (h H (by omega)).2]
theorem dX10_readsHouse_0 : decode cX10_readsHouse 0 = .ok (.aload_n 0, 1) := by decide +kernel
theorem dX10_readsHouse_1 : decode cX10_readsHouse 1 = .ok (.getfield 266, 3) := by decide +kernel
theorem dX10_readsHouse_4 : decode cX10_readsHouse 4 = .ok (.bipush 8, 2) := by decide +kernel
theorem dX10_readsHouse_6 : decode cX10_readsHouse 6 = .ok (.if_icmp .ne 8, 3) := by decide +kernel
theorem dX10_readsHouse_9 : decode cX10_readsHouse 9 = .ok (.aload_n 0, 1) := by decide +kernel
theorem dX10_readsHouse_10 : decode cX10_readsHouse 10 = .ok (.iconst 2, 1) := by decide +kernel
theorem dX10_readsHouse_11 : decode cX10_readsHouse 11 = .ok (.invokevirtual 259, 3) := by decide +kernel
theorem dX10_readsHouse_14 : decode cX10_readsHouse 14 = .ok (.aload_n 0, 1) := by decide +kernel
theorem dX10_readsHouse_15 : decode cX10_readsHouse 15 = .ok (.invokevirtual 252, 3) := by decide +kernel
theorem dX10_readsHouse_18 : decode cX10_readsHouse 18 = .ok (.ifCond .ne 4, 3) := by decide +kernel
theorem dX10_readsHouse_21 : decode cX10_readsHouse 21 = .ok (.return_, 1) := by decide +kernel
theorem dX10_readsHouse_22 : decode cX10_readsHouse 22 = .ok (.aload_n 0, 1) := by decide +kernel
theorem dX10_readsHouse_23 : decode cX10_readsHouse 23 = .ok (.invokevirtual 256, 3) := by decide +kernel
theorem dX10_readsHouse_26 : decode cX10_readsHouse 26 = .ok (.aload_n 0, 1) := by decide +kernel
theorem dX10_readsHouse_27 : decode cX10_readsHouse 27 = .ok (.invokevirtual 321, 3) := by decide +kernel
theorem dX10_readsHouse_30 : decode cX10_readsHouse 30 = .ok (.istore_n 1, 1) := by decide +kernel
theorem dX10_readsHouse_31 : decode cX10_readsHouse 31 = .ok (.iload_n 1, 1) := by decide +kernel
theorem dX10_readsHouse_32 : decode cX10_readsHouse 32 = .ok (.iconst (-1), 1) := by decide +kernel
theorem dX10_readsHouse_33 : decode cX10_readsHouse 33 = .ok (.if_icmp .ne 7, 3) := by decide +kernel
theorem dX10_readsHouse_36 : decode cX10_readsHouse 36 = .ok (.iconst (-1), 1) := by decide +kernel
theorem dX10_readsHouse_37 : decode cX10_readsHouse 37 = .ok (.goto 7, 3) := by decide +kernel
theorem dX10_readsHouse_40 : decode cX10_readsHouse 40 = .ok (.aload_n 0, 1) := by decide +kernel
theorem dX10_readsHouse_41 : decode cX10_readsHouse 41 = .ok (.invokevirtual 321, 3) := by decide +kernel
theorem dX10_readsHouse_44 : decode cX10_readsHouse 44 = .ok (.istore_n 2, 1) := by decide +kernel
theorem dX10_readsHouse_45 : decode cX10_readsHouse 45 = .ok (.aload_n 0, 1) := by decide +kernel
theorem dX10_readsHouse_46 : decode cX10_readsHouse 46 = .ok (.getfield 53, 3) := by decide +kernel
theorem dX10_readsHouse_49 : decode cX10_readsHouse 49 = .ok (.aload_n 0, 1) := by decide +kernel
theorem dX10_readsHouse_50 : decode cX10_readsHouse 50 = .ok (.getfield 266, 3) := by decide +kernel
theorem dX10_readsHouse_53 : decode cX10_readsHouse 53 = .ok (.iload_n 1, 1) := by decide +kernel
theorem dX10_readsHouse_54 : decode cX10_readsHouse 54 = .ok (.iconst (-1), 1) := by decide +kernel
theorem dX10_readsHouse_55 : decode cX10_readsHouse 55 = .ok (.if_icmp .ne 7, 3) := by decide +kernel
theorem dX10_readsHouse_58 : decode cX10_readsHouse 58 = .ok (.iconst 0, 1) := by decide +kernel
theorem dX10_readsHouse_59 : decode cX10_readsHouse 59 = .ok (.goto 4, 3) := by decide +kernel
theorem dX10_readsHouse_62 : decode cX10_readsHouse 62 = .ok (.iload_n 1, 1) := by decide +kernel
theorem dX10_readsHouse_63 : decode cX10_readsHouse 63 = .ok (.iastore, 1) := by decide +kernel
theorem dX10_readsHouse_64 : decode cX10_readsHouse 64 = .ok (.aload_n 0, 1) := by decide +kernel
theorem dX10_readsHouse_65 : decode cX10_readsHouse 65 = .ok (.getfield 56, 3) := by decide +kernel
theorem dX10_readsHouse_68 : decode cX10_readsHouse 68 = .ok (.aload_n 0, 1) := by decide +kernel
theorem dX10_readsHouse_69 : decode cX10_readsHouse 69 = .ok (.getfield 266, 3) := by decide +kernel
theorem dX10_readsHouse_72 : decode cX10_readsHouse 72 = .ok (.iload_n 2, 1) := by decide +kernel
theorem dX10_readsHouse_73 : decode cX10_readsHouse 73 = .ok (.iconst (-1), 1) := by decide +kernel
theorem dX10_readsHouse_74 : decode cX10_readsHouse 74 = .ok (.if_icmp .ne 7, 3) := by decide +kernel
theorem dX10_readsHouse_77 : decode cX10_readsHouse 77 = .ok (.iconst 0, 1) := by decide +kernel
theorem dX10_readsHouse_78 : decode cX10_readsHouse 78 = .ok (.goto 4, 3) := by decide +kernel
theorem dX10_readsHouse_81 : decode cX10_readsHouse 81 = .ok (.iload_n 2, 1) := by decide +kernel
theorem dX10_readsHouse_82 : decode cX10_readsHouse 82 = .ok (.iastore, 1) := by decide +kernel
theorem dX10_readsHouse_83 : decode cX10_readsHouse 83 = .ok (.aload_n 0, 1) := by decide +kernel
theorem dX10_readsHouse_84 : decode cX10_readsHouse 84 = .ok (.getfield 59, 3) := by decide +kernel
theorem dX10_readsHouse_87 : decode cX10_readsHouse 87 = .ok (.aload_n 0, 1) := by decide +kernel
theorem dX10_readsHouse_88 : decode cX10_readsHouse 88 = .ok (.getfield 266, 3) := by decide +kernel
theorem dX10_readsHouse_91 : decode cX10_readsHouse 91 = .ok (.iconst 0, 1) := by decide +kernel
theorem dX10_readsHouse_92 : decode cX10_readsHouse 92 = .ok (.iastore, 1) := by decide +kernel
theorem dX10_readsHouse_93 : decode cX10_readsHouse 93 = .ok (.aload_n 0, 1) := by decide +kernel
theorem dX10_readsHouse_94 : decode cX10_readsHouse 94 = .ok (.iconst 0, 1) := by decide +kernel
theorem dX10_readsHouse_95 : decode cX10_readsHouse 95 = .ok (.putfield 269, 3) := by decide +kernel
theorem dX10_readsHouse_98 : decode cX10_readsHouse 98 = .ok (.aload_n 0, 1) := by decide +kernel
theorem dX10_readsHouse_99 : decode cX10_readsHouse 99 = .ok (.getfield 62, 3) := by decide +kernel
theorem dX10_readsHouse_102 : decode cX10_readsHouse 102 = .ok (.aload_n 0, 1) := by decide +kernel
theorem dX10_readsHouse_103 : decode cX10_readsHouse 103 = .ok (.getfield 266, 3) := by decide +kernel
theorem dX10_readsHouse_106 : decode cX10_readsHouse 106 = .ok (.aload_n 0, 1) := by decide +kernel
theorem dX10_readsHouse_107 : decode cX10_readsHouse 107 = .ok (.getfield 275, 3) := by decide +kernel
theorem dX10_readsHouse_110 : decode cX10_readsHouse 110 = .ok (.iastore, 1) := by decide +kernel
theorem dX10_readsHouse_111 : decode cX10_readsHouse 111 = .ok (.aload_n 0, 1) := by decide +kernel
theorem dX10_readsHouse_112 : decode cX10_readsHouse 112 = .ok (.invokevirtual 252, 3) := by decide +kernel
theorem dX10_readsHouse_115 : decode cX10_readsHouse 115 = .ok (.ifCond .eq 56, 3) := by decide +kernel
theorem dX10_readsHouse_118 : decode cX10_readsHouse 118 = .ok (.aload_n 0, 1) := by decide +kernel
theorem dX10_readsHouse_119 : decode cX10_readsHouse 119 = .ok (.invokevirtual 262, 3) := by decide +kernel
theorem dX10_readsHouse_122 : decode cX10_readsHouse 122 = .ok (.bipush 9, 2) := by decide +kernel
theorem dX10_readsHouse_124 : decode cX10_readsHouse 124 = .ok (.if_icmp .ne 47, 3) := by decide +kernel
theorem dX10_readsHouse_127 : decode cX10_readsHouse 127 = .ok (.aload_n 0, 1) := by decide +kernel
theorem dX10_readsHouse_128 : decode cX10_readsHouse 128 = .ok (.invokevirtual 256, 3) := by decide +kernel
theorem dX10_readsHouse_131 : decode cX10_readsHouse 131 = .ok (.aload_n 0, 1) := by decide +kernel
theorem dX10_readsHouse_132 : decode cX10_readsHouse 132 = .ok (.getfield 59, 3) := by decide +kernel
theorem dX10_readsHouse_135 : decode cX10_readsHouse 135 = .ok (.aload_n 0, 1) := by decide +kernel
theorem dX10_readsHouse_136 : decode cX10_readsHouse 136 = .ok (.getfield 266, 3) := by decide +kernel
theorem dX10_readsHouse_139 : decode cX10_readsHouse 139 = .ok (.iconst 1, 1) := by decide +kernel
theorem dX10_readsHouse_140 : decode cX10_readsHouse 140 = .ok (.iastore, 1) := by decide +kernel
theorem dX10_readsHouse_141 : decode cX10_readsHouse 141 = .ok (.aload_n 0, 1) := by decide +kernel
theorem dX10_readsHouse_142 : decode cX10_readsHouse 142 = .ok (.getfield 68, 3) := by decide +kernel
theorem dX10_readsHouse_145 : decode cX10_readsHouse 145 = .ok (.aload_n 0, 1) := by decide +kernel
theorem dX10_readsHouse_146 : decode cX10_readsHouse 146 = .ok (.getfield 266, 3) := by decide +kernel
theorem dX10_readsHouse_149 : decode cX10_readsHouse 149 = .ok (.aload_n 0, 1) := by decide +kernel
theorem dX10_readsHouse_150 : decode cX10_readsHouse 150 = .ok (.getfield 213, 3) := by decide +kernel
theorem dX10_readsHouse_153 : decode cX10_readsHouse 153 = .ok (.iastore, 1) := by decide +kernel
theorem dX10_readsHouse_154 : decode cX10_readsHouse 154 = .ok (.aload_n 0, 1) := by decide +kernel
theorem dX10_readsHouse_155 : decode cX10_readsHouse 155 = .ok (.invokevirtual 324, 3) := by decide +kernel
theorem dX10_readsHouse_158 : decode cX10_readsHouse 158 = .ok (.aload_n 0, 1) := by decide +kernel
theorem dX10_readsHouse_159 : decode cX10_readsHouse 159 = .ok (.getfield 71, 3) := by decide +kernel
theorem dX10_readsHouse_162 : decode cX10_readsHouse 162 = .ok (.aload_n 0, 1) := by decide +kernel
theorem dX10_readsHouse_163 : decode cX10_readsHouse 163 = .ok (.getfield 266, 3) := by decide +kernel
theorem dX10_readsHouse_166 : decode cX10_readsHouse 166 = .ok (.aload_n 0, 1) := by decide +kernel
theorem dX10_readsHouse_167 : decode cX10_readsHouse 167 = .ok (.getfield 213, 3) := by decide +kernel
theorem dX10_readsHouse_170 : decode cX10_readsHouse 170 = .ok (.iastore, 1) := by decide +kernel
theorem dX10_readsHouse_171 : decode cX10_readsHouse 171 = .ok (.aload_n 0, 1) := by decide +kernel
theorem dX10_readsHouse_172 : decode cX10_readsHouse 172 = .ok (.getfield 65, 3) := by decide +kernel
theorem dX10_readsHouse_175 : decode cX10_readsHouse 175 = .ok (.aload_n 0, 1) := by decide +kernel
theorem dX10_readsHouse_176 : decode cX10_readsHouse 176 = .ok (.getfield 266, 3) := by decide +kernel
theorem dX10_readsHouse_179 : decode cX10_readsHouse 179 = .ok (.aload_n 0, 1) := by decide +kernel
theorem dX10_readsHouse_180 : decode cX10_readsHouse 180 = .ok (.getfield 269, 3) := by decide +kernel
theorem dX10_readsHouse_183 : decode cX10_readsHouse 183 = .ok (.iastore, 1) := by decide +kernel
theorem dX10_readsHouse_184 : decode cX10_readsHouse 184 = .ok (.aload_n 0, 1) := by decide +kernel
theorem dX10_readsHouse_185 : decode cX10_readsHouse 185 = .ok (.invokevirtual 252, 3) := by decide +kernel
theorem dX10_readsHouse_188 : decode cX10_readsHouse 188 = .ok (.ifCond .eq 13, 3) := by decide +kernel
theorem dX10_readsHouse_191 : decode cX10_readsHouse 191 = .ok (.aload_n 0, 1) := by decide +kernel
theorem dX10_readsHouse_192 : decode cX10_readsHouse 192 = .ok (.dup, 1) := by decide +kernel
theorem dX10_readsHouse_193 : decode cX10_readsHouse 193 = .ok (.getfield 266, 3) := by decide +kernel
theorem dX10_readsHouse_196 : decode cX10_readsHouse 196 = .ok (.iconst 1, 1) := by decide +kernel
theorem dX10_readsHouse_197 : decode cX10_readsHouse 197 = .ok (.iadd, 1) := by decide +kernel
theorem dX10_readsHouse_198 : decode cX10_readsHouse 198 = .ok (.putfield 266, 3) := by decide +kernel
theorem dX10_readsHouse_201 : decode cX10_readsHouse 201 = .ok (.return_, 1) := by decide +kernel

theorem kwI_9 {k : Int32} (h : kwI k = nI 9) : k = nI 132 := by
  unfold kwI at h
  by_cases a : k = nI 136
  · rw [if_pos a] at h; exact absurd h (by decide)
  rw [if_neg a] at h
  by_cases a : k = nI 137
  · rw [if_pos a] at h; exact absurd h (by decide)
  rw [if_neg a] at h
  by_cases a : k = nI 138
  · rw [if_pos a] at h; exact absurd h (by decide)
  rw [if_neg a] at h
  by_cases a : k = nI 139
  · rw [if_pos a] at h; exact absurd h (by decide)
  rw [if_neg a] at h
  by_cases a : k = nI 140
  · rw [if_pos a] at h; exact absurd h (by decide)
  rw [if_neg a] at h
  by_cases a : k = nI 129
  · rw [if_pos a] at h; exact absurd h (by decide)
  rw [if_neg a] at h
  by_cases a : k = nI 141
  · rw [if_pos a] at h; exact absurd h (by decide)
  rw [if_neg a] at h
  by_cases a : k = nI 130
  · rw [if_pos a] at h; exact absurd h (by decide)
  rw [if_neg a] at h
  by_cases a : k = nI 131
  · rw [if_pos a] at h; exact absurd h (by decide)
  rw [if_neg a] at h
  by_cases a : k = nI 132
  · exact a
  rw [if_neg a] at h
  by_cases a : k = nI 134
  · rw [if_pos a] at h; exact absurd h (by decide)
  rw [if_neg a] at h
  by_cases a : k = nI 133
  · rw [if_pos a] at h; exact absurd h (by decide)
  rw [if_neg a] at h
  by_cases a : k = nI 135
  · rw [if_pos a] at h; exact absurd h (by decide)
  · rw [if_neg a] at h; exact absurd h (by decide)
set_option maxHeartbeats 4000000 in
set_option maxRecDepth 100000 in
theorem w_rhN {m len h : Nat} {X : Nat → Int32} {n : Nat} {kd : mK} {P : mP} {I0 : mI} {J0 : mJ} {S : RS} {q0 : SS} {cs : Nat → List Nat} {tx : Nat → List Int32} {top : Nat} {I : mI} {J : mJ} {s9 d9 : Option Value} (hM : kM kd P m) (hl : len ≤ 500) (h8 : h < 8) (hfS : rf S = nI 0) (hA : rA m (tkT len X) I J S.1) (hq : rQ S = SS.house q0) (hq0 : q0.1 = h) (hqC : qC cs tx h q0) (hof : ofs cs h + 1 ≤ S.1) (htl : q0.2.2.2.2.2.1 ≤ 2 * (tkT len X).2.2.2.1 S.1) (htx : txS cs tx h + 10 ≤ 2 * (tkT len X).2.2.2.1 S.1) (h27 : I m 27 = nI h) (h28 : I m 28 = (rQ S).2.1) (h33 : I m 33 = (rQ S).2.2.1) (h34 : I m 34 = S.2.2.2.1) (hb1 : ∃ b1, (rQ S).2.2.1 = bz b1) (hb2 : ∃ b2, S.2.2.2.1 = bz b2) (hMo : ∃ M, (rQ S).2.1 = nI M ∧ 2 ≤ M ∧ M ≤ 20) (h30 : I m 30 = nI top) (htop : top + 2 ≤ 2 * S.1) (hrow : ∀ x, x < h → rRow m len top X I cs tx x) (hok : ∀ x, x < h → (cs x ≠ [] → okd (cs x) 0) ∧ (∀ c ∈ cs x, cOK c) ∧ ∀ c ∈ tx x, c.toInt8.toInt32 = c) (hSD : rSD m (h + 1) I (h + 1) S.2.2.2.2.1 S.2.2.2.2.2.1) (hf : hFr m I0 I J0 J) (c132 : ¬ tkK (tkT len X) S.1 = nI 132) : Ru yX10_readsHouse.cls cX10_readsHouse 3 none yX10_readsHouse.name 13 ((fun z n' kd' I' J' P' => z = .inl none ∧ n' = n ∧ kd' = kd ∧ P' = P ∧ hFr m I0 I' J0 J' ∧ rPo m len X 2 (rSays (tkT len X) h S) I' J')) 0 0 83 [some (.ref m), s9, d9] [] n kd I J P := by
  have hqs : (rQ S).1 = h + 1 := by rw [hq]; exact (hqC.house h8).1.1
  refine r_aload_n dX10_readsHouse_83 rfl ?_
  refine r_getR dX10_readsHouse_84 fl_X10_59 rfl (kM_0 hM) (pM_37 hM) ?_
  refine r_aload_n dX10_readsHouse_87 rfl ?_
  refine r_getI dX10_readsHouse_88 fl_X10_266 rfl (kM_0 hM) ?_
  rw [h27]
  refine r_iconst (v := nI 0) dX10_readsHouse_91 (by decide) ?_
  refine r_iast dX10_readsHouse_92 (aM_37 hM) (nI_in8 8 (by omega) (by decide)) (nI_clamp (by omega)) ?_
  refine r_aload_n dX10_readsHouse_93 rfl ?_
  refine r_iconst (v := nI 0) dX10_readsHouse_94 (by decide) ?_
  refine r_putI dX10_readsHouse_95 fl_X10_269 rfl rfl (kM_0 hM) ?_
  refine r_aload_n dX10_readsHouse_98 rfl ?_
  refine r_getR dX10_readsHouse_99 fl_X10_62 rfl (kM_0 hM) (pM_38 hM) ?_
  refine r_aload_n dX10_readsHouse_102 rfl ?_
  refine r_getI dX10_readsHouse_103 fl_X10_266 rfl (kM_0 hM) ?_
  rw [am_up_s, am_up_n _ _ (by decide), am_up_n _ _ (by omega), h27]
  refine r_aload_n dX10_readsHouse_106 rfl ?_
  refine r_getI dX10_readsHouse_107 fl_X10_275 rfl (kM_0 hM) ?_
  rw [am_up_s, am_up_n _ _ (by decide), h30]
  refine r_iast dX10_readsHouse_110 (aM_38 hM) (nI_in8 8 (by omega) (by decide)) (nI_clamp (by omega)) ?_
  obtain ⟨I1, hI1⟩ : ∃ Y9 : mI, Y9 = va_up (va_up (va_up I (m + 15) (va_up (I (m + 15)) h (nI 0))) m (va_up (I m) 29 (nI 0))) (m + 16) (va_up ((va_up (va_up I (m + 15) (va_up (I (m + 15)) h (nI 0))) m (va_up (I m) 29 (nI 0))) (m + 16)) h (nI top)) := ⟨_, rfl⟩
  rw [← hI1]
  have e1 : ∀ j, j ≠ 29 → I1 m j = I m j := fun j hj => by rw [hI1, am_up_n _ _ (by omega), am_up_s, am_up_n _ _ hj]
  have ea1 : ∀ a, a ≠ m → a ≠ m + 15 → a ≠ m + 16 → I1 a = I a := fun a a1 a2 a3 => by rw [hI1, am_up_n _ _ a3, am_up_n _ _ a1, am_up_n _ _ a2]
  have e29 : I1 m 29 = nI 0 := by rw [hI1, am_up_n _ _ (by omega), am_up_s, am_up_s]
  have e15 : I1 (m + 15) = va_up (I (m + 15)) h (nI 0) := by rw [hI1, am_up_n _ _ (by omega), am_up_n _ _ (by omega), am_up_s]
  have e16 : I1 (m + 16) = va_up (I (m + 16)) h (nI top) := by rw [hI1, am_up_s, am_up_n _ _ (by omega), am_up_n _ _ (by omega)]
  have hf1 : hFr m I I1 J J := ⟨fun a x => ea1 a (by omega) (by omega) (by omega), fun j x => e1 j (by omega), fun _ _ => rfl, fun _ _ => rfl, kP.same (e1 _ (by decide)) (e1 _ (by decide))⟩
  clear hI1
  have hA1 : rA m (tkT len X) I1 J S.1 := ⟨(e1 _ (by decide)).trans hA.1, hA.2.1.cg (e1 _ (by decide)) (ea1 _ (by omega) (by omega) (by omega)), hA.2.2.1.cg (fun j h1 h2 => e1 j (by omega)) rfl, hA.2.2.2⟩
  refine r_aload_n dX10_readsHouse_111 rfl ?_
  refine r_virtE (c_good m hM) lk_X10_252 mc_X10_isGood dX10_readsHouse_112 (kM_0 hM) (by decide) rfl rfl (Nat.le_of_ble_eq_true rfl) ?_
  rw [hA1.1, show decide (nI 0 = 0) = true from rfl]
  refine r_if_eq (tgt := 171) dX10_readsHouse_115 (by decide) (fun hz => absurd hz (show ¬ _ from (by decide))) (fun _ => ?_)
  refine r_aload_n dX10_readsHouse_118 rfl ?_
  refine r_virtE (c_known m (kwI (tkK (tkT len X) S.1)) hM hA1.2.2.1.2.2.1.symm) lk_X10_262 mc_X10_knownWord dX10_readsHouse_119 (kM_0 hM) (by decide) rfl rfl (Nat.le_of_ble_eq_true rfl) ?_
  refine r_bipush (v := nI 9) dX10_readsHouse_122 (by decide) ?_
  refine r_icmp_ne (tgt := 171) dX10_readsHouse_124 (by decide) (fun _ => ?_) (fun hz => absurd hz (show ¬ _ from (fun z => c132 (kwI_9 z))))
  refine r_aload_n dX10_readsHouse_171 rfl ?_
  refine r_getR dX10_readsHouse_172 fl_X10_65 rfl (kM_0 hM) (pM_39 hM) ?_
  refine r_aload_n dX10_readsHouse_175 rfl ?_
  refine r_getI dX10_readsHouse_176 fl_X10_266 rfl (kM_0 hM) ?_
  rw [(e1 27 (by decide)).trans h27]
  refine r_aload_n dX10_readsHouse_179 rfl ?_
  refine r_getI dX10_readsHouse_180 fl_X10_269 rfl (kM_0 hM) ?_
  rw [e29]
  refine r_iast dX10_readsHouse_183 (aM_39 hM) (nI_in8 8 (by omega) (by decide)) (nI_clamp (by omega)) ?_
  refine r_aload_n dX10_readsHouse_184 rfl ?_
  refine r_virtE (c_good m hM) lk_X10_252 mc_X10_isGood dX10_readsHouse_185 (kM_0 hM) (by decide) rfl rfl (Nat.le_of_ble_eq_true rfl) ?_
  rw [am_up_n (b := m) _ _ (by omega), hA1.1, show decide (nI 0 = 0) = true from rfl]
  refine r_if_eq (tgt := 201) dX10_readsHouse_188 (by decide) (fun hz => absurd hz (show ¬ _ from (by decide))) (fun _ => ?_)
  refine r_aload_n dX10_readsHouse_191 rfl ?_
  refine r_dup dX10_readsHouse_192 rfl ?_
  refine r_getI dX10_readsHouse_193 fl_X10_266 rfl (kM_0 hM) ?_
  rw [am_up_n (b := m) _ _ (by omega), (e1 27 (by decide)).trans h27]
  refine r_iconst (v := nI 1) dX10_readsHouse_196 (by decide) ?_
  refine r_iadd dX10_readsHouse_197 ?_
  rw [nI_add]
  refine r_putI dX10_readsHouse_198 fl_X10_266 rfl rfl (kM_0 hM) ?_
  obtain ⟨I2, hI2⟩ : ∃ Y9 : mI, Y9 = va_up (va_up I1 (m + 17) (va_up (I1 (m + 17)) h (nI 0))) m (va_up (va_up I1 (m + 17) (va_up (I1 (m + 17)) h (nI 0)) m) 27 (nI (h + 1))) := ⟨_, rfl⟩
  rw [← hI2]
  have k1 : ∀ j, j ≠ 27 → I2 m j = I1 m j := fun j hj => by rw [hI2, am_up_s, am_up_n _ _ hj, am_up_n _ _ (by omega)]
  have ka1 : ∀ a, a ≠ m → a ≠ m + 17 → I2 a = I1 a := fun a a1 a2 => by rw [hI2, am_up_n _ _ a1, am_up_n _ _ a2]
  have k27 : I2 m 27 = nI (h + 1) := by rw [hI2, am_up_s, am_up_s]
  have k17 : I2 (m + 17) = va_up (I1 (m + 17)) h (nI 0) := by rw [hI2, am_up_n _ _ (by omega), am_up_s]
  have hf2 : hFr m I1 I2 J J := ⟨fun a x => ka1 a (by omega) (by omega), fun j x => k1 j (by omega), fun _ _ => rfl, fun _ _ => rfl, kP.same (k1 _ (by decide)) (k1 _ (by decide))⟩
  clear hI2
  refine r_vret rfl dX10_readsHouse_201 ?_
  obtain ⟨g1, g2, g3, g4⟩ := hqC.house h8
  refine ⟨rfl, rfl, rfl, rfl, (hf.tr hf1).tr hf2, ?_⟩
  rw [show rSays (tkT len X) h S = S from if_neg (fun z => c132 z.1)]
  refine ⟨fun _ => ⟨csN cs h [], txN tx h [], ⟨hfS, ⟨(k1 _ (by decide)).trans hA1.1, hA1.2.1.cg (k1 _ (by decide)) (ka1 _ (by omega) (by omega)), hA1.2.2.1.cg (fun j h1 h2 => k1 j (by omega)) rfl, hA1.2.2.2⟩⟩, ?_, ⟨top, (k1 _ (by decide)).trans ((e1 _ (by decide)).trans h30), by omega, ?_⟩, ?_, ?_, ?_⟩, fun z => absurd hfS z⟩
  · rw [hqs]
    exact ⟨by omega, k27, by rw [k1 _ (by decide), e1 _ (by decide)]; exact h28, by rw [k1 _ (by decide), e1 _ (by decide)]; exact h33, by rw [k1 _ (by decide), e1 _ (by decide)]; exact h34, hb1, hb2, hMo⟩
  · rw [hqs]
    intro x hx
    by_cases c : x = h
    · subst c
      refine ⟨?_, ?_, fun z => absurd csN_s z⟩
      · rw [ka1 _ (by omega) (by omega), e15, am_up_s, csN_s, if_pos rfl]
      · rw [k17, am_up_s, csN_s]; rfl
    · refine (hrow x (by omega)).cg ?_ ?_ ?_ ?_ ?_ (Nat.le_refl top) ?_ (csN_o c) (txN_o c)
      · rw [ka1 _ (by omega) (by omega), e15, am_up_n _ _ c]
      · rw [ka1 _ (by omega) (by omega), e16, am_up_n _ _ c]
      · rw [k17, am_up_n _ _ c, ea1 _ (by omega) (by omega) (by omega)]
      · rw [ka1 _ (by omega) (by omega), ea1 _ (by omega) (by omega) (by omega)]
      · rw [ka1 _ (by omega) (by omega), ea1 _ (by omega) (by omega) (by omega)]
      · intro k hk
        rw [ka1 _ (by omega) (by omega), ea1 _ (by omega) (by omega) (by omega)]
  · rw [hqs]
    refine ⟨by rw [hq]; exact g1, by rw [csN_len]; show ofs cs h + 0 ≤ S.1; omega, by rw [hq, g2]; exact htl, ?_⟩
    show txS _ _ h + (12 + if csN cs h [] h = [] then 0 else _) ≤ _
    rw [csN_s, if_pos rfl, txS_cg (cs := cs) (tx := tx) h (fun x hx => ⟨csN_o (by omega), txN_o (by omega)⟩)]
    omega
  · rw [hqs]
    intro x hx
    by_cases c : x = h
    · subst c
      rw [csN_s, txN_s]
      exact ⟨fun z => absurd rfl z, fun c hc => absurd hc List.not_mem_nil, fun c hc => absurd hc List.not_mem_nil⟩
    · rw [csN_o c, txN_o c]
      exact hok x (by omega)
  · rw [hqs]
    intro x hx
    obtain ⟨u, v, s1, s2, s3, s4, s5, s6⟩ := hSD x hx
    exact ⟨u, v, s1, s2, s3, s4, fun z => by rw [ka1 _ (by omega) (by omega), ka1 _ (by omega) (by omega), ea1 _ (by omega) (by omega) (by omega), ea1 _ (by omega) (by omega) (by omega)]; exact s5 z, s6⟩

set_option maxHeartbeats 4000000 in
set_option maxRecDepth 100000 in
theorem w_rhS {m len h : Nat} {X : Nat → Int32} {n : Nat} {kd : mK} {P : mP} {I0 : mI} {J0 : mJ} {S : RS} {q0 : SS} {cs : Nat → List Nat} {tx : Nat → List Int32} {top : Nat} {I : mI} {J : mJ} {s9 d9 : Option Value} (hM : kM kd P m) (hl : len ≤ 500) (h8 : h < 8) (hfS : rf S = nI 0) (hA : rA m (tkT len X) I J S.1) (hq : rQ S = SS.house q0) (hq0 : q0.1 = h) (hqC : qC cs tx h q0) (hof : ofs cs h + 1 ≤ S.1) (htl : q0.2.2.2.2.2.1 ≤ 2 * (tkT len X).2.2.2.1 S.1) (htx : txS cs tx h + 10 ≤ 2 * (tkT len X).2.2.2.1 S.1) (h27 : I m 27 = nI h) (h28 : I m 28 = (rQ S).2.1) (h33 : I m 33 = (rQ S).2.2.1) (h34 : I m 34 = S.2.2.2.1) (hb1 : ∃ b1, (rQ S).2.2.1 = bz b1) (hb2 : ∃ b2, S.2.2.2.1 = bz b2) (hMo : ∃ M, (rQ S).2.1 = nI M ∧ 2 ≤ M ∧ M ≤ 20) (h30 : I m 30 = nI top) (htop : top + 2 ≤ 2 * S.1) (hrow : ∀ x, x < h → rRow m len top X I cs tx x) (hok : ∀ x, x < h → (cs x ≠ [] → okd (cs x) 0) ∧ (∀ c ∈ cs x, cOK c) ∧ ∀ c ∈ tx x, c.toInt8.toInt32 = c) (hSD : rSD m (h + 1) I (h + 1) S.2.2.2.2.1 S.2.2.2.2.2.1) (hf : hFr m I0 I J0 J) (c132 : tkK (tkT len X) S.1 = nI 132) : Ru yX10_readsHouse.cls cX10_readsHouse 3 none yX10_readsHouse.name 13 ((fun z n' kd' I' J' P' => z = .inl none ∧ n' = n ∧ kd' = kd ∧ P' = P ∧ hFr m I0 I' J0 J' ∧ rPo m len X 2 (rSays (tkT len X) h S) I' J')) 0 0 83 [some (.ref m), s9, d9] [] n kd I J P := by
  have hqs : (rQ S).1 = h + 1 := by rw [hq]; exact (hqC.house h8).1.1
  have hT := tkA_of (X := X) hl
  have hi2 : S.1 + 1 < (tkT len X).2.1 := hT.1.2.1 _ (by rw [c132]; decide)
  obtain ⟨R2, hR2⟩ : ∃ R2, R2 = rSt (rNx (tkT len X) S) (SS.begin (rQ (rNx (tkT len X) S))) := ⟨_, rfl⟩
  have hnx : rNx (tkT len X) S = (S.1 + 1, S.2) := if_pos hi2
  have hR21 : R2.1 = S.1 + 1 := by rw [hR2, hnx]; rfl
  have hR2f : rf R2 = nI 0 := by rw [hR2, hnx]; exact hfS
  have hR2q : rQ R2 = SS.begin (SS.house q0) := by rw [hR2, hnx]; show SS.begin (rQ S) = _; rw [hq]
  have hR2m : R2.2.2.2.1 = S.2.2.2.1 := by rw [hR2, hnx]; rfl
  have hR2so : R2.2.2.2.2.1 = S.2.2.2.2.1 := by rw [hR2, hnx]; rfl
  have hR2de : R2.2.2.2.2.2.1 = S.2.2.2.2.2.1 := by rw [hR2, hnx]; rfl
  have hS9 : rSays (tkT len X) h S = rExpr (tkT len X) h 6 R2 := by rw [hR2]; exact if_pos ⟨c132, hfS⟩
  have hrel := expr_rel (h := h) hT.1 6 R2 hR2f
  have hPF := PF.expr hT.1 h8 6 (S.1 + 1)
  rw [hR21] at hrel
  obtain ⟨r, hr⟩ : ∃ r, r = pExpr (tkT len X) h 6 (S.1 + 1) := ⟨_, rfl⟩
  rw [← hr] at hrel hPF
  by_cases hr0 : r.1 = 0
  · skip
    refine r_aload_n dX10_readsHouse_83 rfl ?_
    refine r_getR dX10_readsHouse_84 fl_X10_59 rfl (kM_0 hM) (pM_37 hM) ?_
    refine r_aload_n dX10_readsHouse_87 rfl ?_
    refine r_getI dX10_readsHouse_88 fl_X10_266 rfl (kM_0 hM) ?_
    rw [h27]
    refine r_iconst (v := nI 0) dX10_readsHouse_91 (by decide) ?_
    refine r_iast dX10_readsHouse_92 (aM_37 hM) (nI_in8 8 (by omega) (by decide)) (nI_clamp (by omega)) ?_
    refine r_aload_n dX10_readsHouse_93 rfl ?_
    refine r_iconst (v := nI 0) dX10_readsHouse_94 (by decide) ?_
    refine r_putI dX10_readsHouse_95 fl_X10_269 rfl rfl (kM_0 hM) ?_
    refine r_aload_n dX10_readsHouse_98 rfl ?_
    refine r_getR dX10_readsHouse_99 fl_X10_62 rfl (kM_0 hM) (pM_38 hM) ?_
    refine r_aload_n dX10_readsHouse_102 rfl ?_
    refine r_getI dX10_readsHouse_103 fl_X10_266 rfl (kM_0 hM) ?_
    rw [am_up_s, am_up_n _ _ (by decide), am_up_n _ _ (by omega), h27]
    refine r_aload_n dX10_readsHouse_106 rfl ?_
    refine r_getI dX10_readsHouse_107 fl_X10_275 rfl (kM_0 hM) ?_
    rw [am_up_s, am_up_n _ _ (by decide), h30]
    refine r_iast dX10_readsHouse_110 (aM_38 hM) (nI_in8 8 (by omega) (by decide)) (nI_clamp (by omega)) ?_
    obtain ⟨I1, hI1⟩ : ∃ Y9 : mI, Y9 = va_up (va_up (va_up I (m + 15) (va_up (I (m + 15)) h (nI 0))) m (va_up (I m) 29 (nI 0))) (m + 16) (va_up ((va_up (va_up I (m + 15) (va_up (I (m + 15)) h (nI 0))) m (va_up (I m) 29 (nI 0))) (m + 16)) h (nI top)) := ⟨_, rfl⟩
    rw [← hI1]
    have e1 : ∀ j, j ≠ 29 → I1 m j = I m j := fun j hj => by rw [hI1, am_up_n _ _ (by omega), am_up_s, am_up_n _ _ hj]
    have ea1 : ∀ a, a ≠ m → a ≠ m + 15 → a ≠ m + 16 → I1 a = I a := fun a a1 a2 a3 => by rw [hI1, am_up_n _ _ a3, am_up_n _ _ a1, am_up_n _ _ a2]
    have e29 : I1 m 29 = nI 0 := by rw [hI1, am_up_n _ _ (by omega), am_up_s, am_up_s]
    have e15 : I1 (m + 15) = va_up (I (m + 15)) h (nI 0) := by rw [hI1, am_up_n _ _ (by omega), am_up_n _ _ (by omega), am_up_s]
    have e16 : I1 (m + 16) = va_up (I (m + 16)) h (nI top) := by rw [hI1, am_up_s, am_up_n _ _ (by omega), am_up_n _ _ (by omega)]
    have hf1 : hFr m I I1 J J := ⟨fun a x => ea1 a (by omega) (by omega) (by omega), fun j x => e1 j (by omega), fun _ _ => rfl, fun _ _ => rfl, kP.same (e1 _ (by decide)) (e1 _ (by decide))⟩
    clear hI1
    have hA1 : rA m (tkT len X) I1 J S.1 := ⟨(e1 _ (by decide)).trans hA.1, hA.2.1.cg (e1 _ (by decide)) (ea1 _ (by omega) (by omega) (by omega)), hA.2.2.1.cg (fun j h1 h2 => e1 j (by omega)) rfl, hA.2.2.2⟩
    refine r_aload_n dX10_readsHouse_111 rfl ?_
    refine r_virtE (c_good m hM) lk_X10_252 mc_X10_isGood dX10_readsHouse_112 (kM_0 hM) (by decide) rfl rfl (Nat.le_of_ble_eq_true rfl) ?_
    rw [hA1.1, show decide (nI 0 = 0) = true from rfl]
    refine r_if_eq (tgt := 171) dX10_readsHouse_115 (by decide) (fun hz => absurd hz (show ¬ _ from (by decide))) (fun _ => ?_)
    refine r_aload_n dX10_readsHouse_118 rfl ?_
    refine r_virtE (c_known m (kwI (tkK (tkT len X) S.1)) hM hA1.2.2.1.2.2.1.symm) lk_X10_262 mc_X10_knownWord dX10_readsHouse_119 (kM_0 hM) (by decide) rfl rfl (Nat.le_of_ble_eq_true rfl) ?_
    rw [show kwI (tkK (tkT len X) S.1) = nI 9 from by rw [c132]; rfl]
    refine r_bipush (v := nI 9) dX10_readsHouse_122 (by decide) ?_
    refine r_icmp_ne (tgt := 171) dX10_readsHouse_124 (by decide) (fun hz => absurd (show _ from rfl) hz) (fun _ => ?_)
    refine r_aload_n dX10_readsHouse_127 rfl ?_
    refine r_virt (kc2 := 0) (ks2 := 0) (c_goesT m S.1 hM hT hA1.2.1 hA1.2.2.1 hi2) lk_X10_256 mc_X10_goes dX10_readsHouse_128 (kM_0 hM) (by decide) rfl rfl (Nat.le_of_ble_eq_true rfl) (by decide) (by decide) (fun _ _ _ _ _ _ h => nomatch h.1) ?_
    rintro v2 n2 kd2 I2 J2 P2 ⟨h00, rfl, rfl, rfl, hf2, hk2⟩
    cases h00
    simp only [Option.toList, List.nil_append]
    have hA2 := hA1.go hf2 hk2 hi2
    have k27 : I2 m 27 = nI h := (hf2.2.1 _ (by decide)).trans ((e1 _ (by decide)).trans h27)
    refine r_aload_n dX10_readsHouse_131 rfl ?_
    refine r_getR dX10_readsHouse_132 fl_X10_59 rfl (kM_0 hM) (pM_37 hM) ?_
    refine r_aload_n dX10_readsHouse_135 rfl ?_
    refine r_getI dX10_readsHouse_136 fl_X10_266 rfl (kM_0 hM) ?_
    rw [k27]
    refine r_iconst (v := nI 1) dX10_readsHouse_139 (by decide) ?_
    refine r_iast dX10_readsHouse_140 (aM_37 hM) (nI_in8 8 (by omega) (by decide)) (nI_clamp (by omega)) ?_
    refine r_aload_n dX10_readsHouse_141 rfl ?_
    refine r_getR dX10_readsHouse_142 fl_X10_68 rfl (kM_0 hM) (pM_40 hM) ?_
    refine r_aload_n dX10_readsHouse_145 rfl ?_
    refine r_getI dX10_readsHouse_146 fl_X10_266 rfl (kM_0 hM) ?_
    rw [am_up_n (b := m) _ _ (by omega), k27]
    refine r_aload_n dX10_readsHouse_149 rfl ?_
    refine r_getI dX10_readsHouse_150 fl_X10_213 rfl (kM_0 hM) ?_
    rw [am_up_n (b := m) _ _ (by omega), show I2 m 22 = nI ((tkT len X).2.2.2.1 (S.1 + 1)) from hk2.2.1]
    refine r_iast dX10_readsHouse_153 (aM_40 hM) (nI_in8 8 (by omega) (by decide)) (nI_clamp (by omega)) ?_
    obtain ⟨I3, hI3⟩ : ∃ Y9 : mI, Y9 = va_up (va_up I2 (m + 15) (va_up (I2 (m + 15)) h (nI 1))) (m + 18) (va_up (va_up I2 (m + 15) (va_up (I2 (m + 15)) h (nI 1)) (m + 18)) h (nI ((tkT len X).2.2.2.1 (S.1 + 1)))) := ⟨_, rfl⟩
    rw [← hI3]
    have e3 : I3 m = I2 m := by rw [hI3, am_up_n _ _ (by omega), am_up_n _ _ (by omega)]
    have ea3 : ∀ a, a ≠ m + 15 → a ≠ m + 18 → I3 a = I2 a := fun a a2 a3 => by rw [hI3, am_up_n _ _ a3, am_up_n _ _ a2]
    have e315 : I3 (m + 15) = va_up (I2 (m + 15)) h (nI 1) := by rw [hI3, am_up_n _ _ (by omega), am_up_s]
    have e318 : I3 (m + 18) = va_up (I2 (m + 18)) h (nI ((tkT len X).2.2.2.1 (S.1 + 1))) := by rw [hI3, am_up_s, am_up_n _ _ (by omega)]
    have hf3 : hFr m I2 I3 J2 J2 := ⟨fun a x => ea3 a (by omega) (by omega), fun j x => by rw [e3], fun _ _ => rfl, fun _ _ => rfl, kP.same (by rw [e3]) (by rw [e3])⟩
    clear hI3
    have hA3 : rA m (tkT len X) I3 J2 (S.1 + 1) := ⟨by rw [e3]; exact hA2.1, hA2.2.1.cg (by rw [e3]) (ea3 _ (by omega) (by omega)), hA2.2.2.1.cg (fun j h1 h2 => by rw [e3]) rfl, hA2.2.2.2⟩
    refine r_aload_n dX10_readsHouse_154 rfl ?_
    refine r_virt (kc2 := 0) (ks2 := 0) (c_exprR (a0 := top) hM hT h8 hA3.1 (by rw [e3]; exact k27) hA3.2.1 hA3.2.2.1 hA3.2.2.2 (by rw [e3, hf2.2.1 _ (by decide), e1 _ (by decide)]; exact h30) (by omega) (by rw [e3, hf2.2.1 _ (by decide)]; exact e29)) lk_X10_324 mc_X10_expression dX10_readsHouse_155 (kM_0 hM) (by decide) rfl rfl (Nat.le_of_ble_eq_true rfl) (by decide) (by decide) (fun _ _ _ _ _ _ h => nomatch h.1) ?_
    rintro v4 n4 kd4 I4 J4 P4 ⟨h00, rfl, rfl, rfl, hf4, hb4, hg4⟩
    cases h00
    simp only [Option.toList, List.nil_append]
    rw [← hr] at hb4 hg4
    refine r_aload_n dX10_readsHouse_158 rfl ?_
    refine r_getR dX10_readsHouse_159 fl_X10_71 rfl (kM_0 hM) (pM_41 hM) ?_
    refine r_aload_n dX10_readsHouse_162 rfl ?_
    refine r_getI dX10_readsHouse_163 fl_X10_266 rfl (kM_0 hM) ?_
    rw [hf4.2.1 27 (by decide) (by decide) (by decide) (by decide), e3, k27]
    refine r_aload_n dX10_readsHouse_166 rfl ?_
    obtain ⟨⟨x16, x27, xgi⟩, ⟨xk, xi⟩, ⟨t4, x30, xrc, xC0, xa0, xb⟩, x29⟩ := hg4 hr0
    refine r_getI dX10_readsHouse_167 fl_X10_213 rfl (kM_0 hM) ?_
    rw [show I4 m 22 = nI ((tkT len X).2.2.2.1 r.2.1) from xk.2.1]
    refine r_iast dX10_readsHouse_170 (aM_41 hM) (nI_in8 8 (by omega) (by decide)) (nI_clamp (by omega)) ?_
    refine r_aload_n dX10_readsHouse_171 rfl ?_
    refine r_getR dX10_readsHouse_172 fl_X10_65 rfl (kM_0 hM) (pM_39 hM) ?_
    refine r_aload_n dX10_readsHouse_175 rfl ?_
    refine r_getI dX10_readsHouse_176 fl_X10_266 rfl (kM_0 hM) ?_
    rw [am_up_n (b := m) _ _ (by omega), hf4.2.1 27 (by decide) (by decide) (by decide) (by decide), e3, k27]
    refine r_aload_n dX10_readsHouse_179 rfl ?_
    refine r_getI dX10_readsHouse_180 fl_X10_269 rfl (kM_0 hM) ?_
    rw [am_up_n (b := m) _ _ (by omega), x29]
    refine r_iast dX10_readsHouse_183 (aM_39 hM) (nI_in8 8 (by omega) (by decide)) (nI_clamp (by omega)) ?_
    refine r_aload_n dX10_readsHouse_184 rfl ?_
    refine r_virtE (c_good m hM) lk_X10_252 mc_X10_isGood dX10_readsHouse_185 (kM_0 hM) (by decide) rfl rfl (Nat.le_of_ble_eq_true rfl) ?_
    rw [am_up_n (b := m) _ _ (by omega), am_up_n (b := m) _ _ (by omega), x16, show decide (nI 0 = 0) = true from rfl]
    refine r_if_eq (tgt := 201) dX10_readsHouse_188 (by decide) (fun hz => absurd hz (show ¬ _ from (by decide))) (fun _ => ?_)
    refine r_aload_n dX10_readsHouse_191 rfl ?_
    refine r_dup dX10_readsHouse_192 rfl ?_
    refine r_getI dX10_readsHouse_193 fl_X10_266 rfl (kM_0 hM) ?_
    rw [am_up_n (b := m) _ _ (by omega), am_up_n (b := m) _ _ (by omega), x27]
    refine r_iconst (v := nI 1) dX10_readsHouse_196 (by decide) ?_
    refine r_iadd dX10_readsHouse_197 ?_
    rw [nI_add]
    refine r_putI dX10_readsHouse_198 fl_X10_266 rfl rfl (kM_0 hM) ?_
    obtain ⟨I5, hI5⟩ : ∃ Y9 : mI, Y9 = va_up (va_up (va_up I4 (m + 19) (va_up (I4 (m + 19)) h (nI ((tkT len X).2.2.2.1 r.2.1)))) (m + 17) (va_up (va_up I4 (m + 19) (va_up (I4 (m + 19)) h (nI ((tkT len X).2.2.2.1 r.2.1))) (m + 17)) h (nI (lkm 0 r.2.2 % 256)))) m (va_up (va_up (va_up I4 (m + 19) (va_up (I4 (m + 19)) h (nI ((tkT len X).2.2.2.1 r.2.1)))) (m + 17) (va_up (va_up I4 (m + 19) (va_up (I4 (m + 19)) h (nI ((tkT len X).2.2.2.1 r.2.1))) (m + 17)) h (nI (lkm 0 r.2.2 % 256))) m) 27 (nI (h + 1))) := ⟨_, rfl⟩
    rw [← hI5]
    have k5 : ∀ j, j ≠ 27 → I5 m j = I4 m j := fun j hj => by rw [hI5, am_up_s, am_up_n _ _ hj, am_up_n _ _ (by omega), am_up_n _ _ (by omega)]
    have ka5 : ∀ a, a ≠ m → a ≠ m + 17 → a ≠ m + 19 → I5 a = I4 a := fun a a1 a2 a3 => by rw [hI5, am_up_n _ _ a1, am_up_n _ _ a2, am_up_n _ _ a3]
    have k527 : I5 m 27 = nI (h + 1) := by rw [hI5, am_up_s, am_up_s]
    have k517 : I5 (m + 17) = va_up (I4 (m + 17)) h (nI (lkm 0 r.2.2 % 256)) := by rw [hI5, am_up_n _ _ (by omega), am_up_s, am_up_n _ _ (by omega)]
    have k519 : I5 (m + 19) = va_up (I4 (m + 19)) h (nI ((tkT len X).2.2.2.1 r.2.1)) := by rw [hI5, am_up_n _ _ (by omega), am_up_n _ _ (by omega), am_up_s]
    have hf5 : hFr m I4 I5 J4 J4 := ⟨fun a x => ka5 a (by omega) (by omega) (by omega), fun j x => k5 j (by omega), fun _ _ => rfl, fun _ _ => rfl, kP.same (k5 _ (by decide)) (k5 _ (by decide))⟩
    clear hI5
    refine r_vret rfl dX10_readsHouse_201 ?_
    obtain ⟨f1, f2, f3, f4, f5⟩ := hPF hr0
    obtain ⟨hj9, hS99⟩ := hrel.1 hr0
    have hS91 : rSays (tkT len X) h S = rGo (tkT len X) R2 r.2.1 r.2.2 := hS9.trans hS99
    have hri : r.2.1 = S.1 + 1 + (r.2.1 - (S.1 + 1)) := by omega
    have hokd : okd r.2.2 0 := by
      have := f4 0 (by omega) [] (by show 1 ≤ 1; omega)
      rw [List.append_nil] at this
      exact this
    have hne : r.2.2 ≠ [] := fun z => by
      rw [z] at hokd
      exact absurd hokd (by show ¬ 1 ≤ 0; omega)
    obtain ⟨g1, g2, g3, g4⟩ := hqC.house h8
    have hbeg := g1.begin h8 (by rw [csN_ofs h (Nat.le_refl h)]; have := hT.1.1.1; omega) csN_s txN_s ⟨q0.2.2.2.2.2.1, house_tf h8 hq0, g2⟩
    obtain ⟨b1, b2, b3, b4⟩ := hbeg
    have hw := wd_len (X := X) (i := S.1) hl
    have hw4 := hw.2.1 c132
    have hcds := b1.cds h8 r.2.2 [] _ (by rw [csN_ofs h (Nat.le_refl h)]; show ofs cs h + 0 + _ ≤ 519; have := hT.1.1.1; omega) f3
    obtain ⟨d1, d2, d3, d4⟩ := hcds
    have htoks := qM.toks hl (i0 := S.1 + 1) h8 (r.2.1 - (S.1 + 1)) 0 (rCds r.2.2 (SS.begin (SS.house q0))) (fun t t1 t2 => f5 t (by omega) (by omega)) (by rw [d2, b2, g2]; show _ ≤ 2 * (tkT len X).2.2.2.1 (S.1 + 1); omega) d1
    obtain ⟨t1, t2, t3, t4'⟩ := htoks
    have hq9 : rQ (rGo (tkT len X) R2 r.2.1 r.2.2) = rToks (tkT len X) (r.2.1 - (S.1 + 1)) (S.1 + 1) (rCds r.2.2 (SS.begin (SS.house q0))) := by
      show rToks (tkT len X) (r.2.1 - R2.1) R2.1 (rCds r.2.2 (rQ R2)) = _
      rw [hR21, hR2q]
    have hfin := t1.fin hne
    rw [csN_N, txN_N, Nat.zero_add] at hfin
    rw [Nat.add_zero] at t2 t3 t4' hfin
    have hqs9 : (rQ (rGo (tkT len X) R2 r.2.1 r.2.2)).1 = h + 1 := by rw [hq9]; exact hfin.1
    have hall := wrT_all (X := X) (i0 := S.1 + 1) (n := r.2.1 - (S.1 + 1)) hl (fun t t1 t2 => f5 t t1 (by omega))
    have hokb := okB_tk (X := X) (i0 := S.1 + 1) hl (r.2.1 - (S.1 + 1)) (fun t t1 t2 => f5 t t1 (by omega))
    have hlen9 := txA_len (X := X) (i0 := S.1 + 1) hl (r.2.1 - (S.1 + 1)) (fun t t1 t2 => f5 t t1 (by omega))
    have hbok := txA_ok (i0 := S.1 + 1) hl hA.2.1.2.2 (r.2.1 - (S.1 + 1)) (fun t t1 t2 => f5 t t1 (by omega))
    rw [← hri] at t2 hall hokb hlen9
    have hblen : (tkT len X).2.2.2.1 r.2.1 ≤ len := by
      by_cases z : tkK (tkT len X) r.2.1 = nI 0
      · by_cases q : r.2.1 < (lx X len 0).length
        · have hs := (lx_at r.2.1 0 (Nat.zero_le _) q).1
          rw [← tk_in hl q] at hs
          have s1 : (tkT len X).2.2.2.1 r.2.1 < (tkAt (tkT len X) r.2.1).2.2 := hs.1
          have s2 := hs.2.1
          omega
        · have hx9 : r.2.1 < (tkT len X).2.1 := xi
          rw [tk_n hl] at hx9
          have e9 := tk_end (X := X) (len := len) hl (show r.2.1 = (lx X len 0).length by omega)
          show (tkAt (tkT len X) r.2.1).2.1 ≤ len
          rw [e9]
          exact Nat.le_refl _
      · obtain ⟨-, s1⟩ := tkS_at hl z
        have s2 : (tkT len X).2.2.2.1 r.2.1 < (tkAt (tkT len X) r.2.1).2.2 := s1.1
        have s3 := s1.2.1
        omega
    have ea4 : ∀ a, a ≠ m → a ≠ m + 20 → a ≠ m + 21 → a ≠ m + 22 → a ≠ m + 15 → a ≠ m + 16 → a ≠ m + 18 → a ≠ m + 17 → a ≠ m + 19 → I5 a = I a := fun a a1 a2 a3 a4 a5 a6 a7 a8 a9 => by rw [ka5 a a1 a8 a9, hf4.1 a a1 a2 a3 a4, ea3 a a5 a7, hf2.1 a a1, ea1 a a1 a5 a6]
    have row : ∀ k, k = 13 ∨ k = 14 → I5 (m + k) = I (m + k) := fun k hk => ea4 _ (by omega) (by omega) (by omega) (by omega) (by omega) (by omega) (by omega) (by omega) (by omega)
    refine ⟨rfl, rfl, rfl, rfl, ((((hf.tr hf1).tr (nuFr.g hf2).h).tr hf3).tr hf4.h).tr hf5, ?_⟩
    rw [hS91]
    refine ⟨fun _ => ⟨csN cs h r.2.2, txN tx h (txA (tkT len X) (S.1 + 1) (r.2.1 - (S.1 + 1))), ⟨hR2f, ⟨(k5 _ (by decide)).trans x16, xgi.cg (k5 _ (by decide)) (ka5 _ (by omega) (by omega) (by omega)), xk.cg (fun j h1 h2 => k5 j (by omega)) rfl, xi⟩⟩, ?_, ⟨t4 + 1, (k5 _ (by decide)).trans x30, by show t4 + 1 ≤ 2 * r.2.1; omega, ?_⟩, ?_, ?_, ?_⟩, fun z => absurd hR2f z⟩
    · have f4j : ∀ j, j = 28 ∨ j = 33 ∨ j = 34 → I5 m j = I m j := fun j hj => by rw [k5 j (by omega), hf4.2.1 j (by omega) (by omega) (by omega) (by omega), e3, hf2.2.1 j (by omega), e1 j (by omega)]
      rw [hqs9]
      have m1 : (rQ (rGo (tkT len X) R2 r.2.1 r.2.2)).2.1 = (rQ S).2.1 := by rw [hq9, t3, d3, b3, g3, hq, g3]
      have m2 : (rQ (rGo (tkT len X) R2 r.2.1 r.2.2)).2.2.1 = (rQ S).2.2.1 := by rw [hq9, t4', d4, b4, g4, hq, g4]
      have m3 : (rGo (tkT len X) R2 r.2.1 r.2.2).2.2.2.1 = S.2.2.2.1 := hR2m
      rw [m1, m2, m3]
      exact ⟨by omega, k527, (f4j 28 (by omega)).trans h28, (f4j 33 (by omega)).trans h33, (f4j 34 (by omega)).trans h34, hb1, hb2, hMo⟩
    · rw [hqs9]
      intro x hx
      by_cases c : x = h
      · subst c
        refine ⟨?_, ?_, fun _ => ⟨⟨top, ?_, fun Cd hCd => ?_⟩, (tkT len X).2.2.2.1 (S.1 + 1), (tkT len X).2.2.2.1 r.2.1 - (tkT len X).2.2.2.1 (S.1 + 1), ?_, ?_, ?_, fun k k1 k2 => ?_, ?_⟩⟩
        · rw [csN_s, if_neg hne, ka5 _ (by omega) (by omega) (by omega), hf4.1 _ (by omega) (by omega) (by omega) (by omega), e315, am_up_s]
        · rw [csN_s, k517, am_up_s]
        · rw [ka5 _ (by omega) (by omega) (by omega), hf4.1 _ (by omega) (by omega) (by omega) (by omega), ea3 _ (by omega) (by omega), hf2.1 _ (by omega), e16, am_up_s]
        · rw [csN_s]
          exact xrc Cd (fun k hk => by rw [hCd k hk, ka5 _ (by omega) (by omega) (by omega)])
        · rw [ka5 _ (by omega) (by omega) (by omega), hf4.1 _ (by omega) (by omega) (by omega) (by omega), e318, am_up_s]
        · rw [k519, am_up_s]
          congr 1
          have := hokb.1
          omega
        · have := hokb.1
          omega
        · exact hokb.2 k k1 (by have := hokb.1; omega)
        · rw [txN_s]
          exact hall
      · refine (hrow x (by omega)).cg ?_ ?_ ?_ ?_ ?_ (show top ≤ t4 + 1 by omega) ?_ (csN_o c) (txN_o c)
        · rw [ka5 _ (by omega) (by omega) (by omega), hf4.1 _ (by omega) (by omega) (by omega) (by omega), e315, am_up_n _ _ c, hf2.1 _ (by omega), e15, am_up_n _ _ c]
        · rw [ka5 _ (by omega) (by omega) (by omega), hf4.1 _ (by omega) (by omega) (by omega) (by omega), ea3 _ (by omega) (by omega), hf2.1 _ (by omega), e16, am_up_n _ _ c]
        · rw [k517, am_up_n _ _ c, hf4.1 _ (by omega) (by omega) (by omega) (by omega), ea3 _ (by omega) (by omega), hf2.1 _ (by omega), ea1 _ (by omega) (by omega) (by omega)]
        · rw [ka5 _ (by omega) (by omega) (by omega), hf4.1 _ (by omega) (by omega) (by omega) (by omega), e318, am_up_n _ _ c, hf2.1 _ (by omega), ea1 _ (by omega) (by omega) (by omega)]
        · rw [k519, am_up_n _ _ c, hf4.1 _ (by omega) (by omega) (by omega) (by omega), ea3 _ (by omega) (by omega), hf2.1 _ (by omega), ea1 _ (by omega) (by omega) (by omega)]
        · intro k hk
          rw [ka5 _ (by omega) (by omega) (by omega), xC0 k hk, ea3 _ (by omega) (by omega), hf2.1 _ (by omega), ea1 _ (by omega) (by omega) (by omega)]
    · rw [hqs9]
      refine ⟨by rw [hq9]; exact hfin, by rw [csN_len]; show ofs cs h + r.2.2.length ≤ r.2.1; omega, by rw [hq9]; exact t2, ?_⟩
      show txS _ _ h + (12 + if csN cs h r.2.2 h = [] then 0 else 6 + (txN tx h (txA (tkT len X) (S.1 + 1) (r.2.1 - (S.1 + 1))) h).length) ≤ 2 * (tkT len X).2.2.2.1 r.2.1 + 2
      rw [csN_s, txN_s, if_neg hne, txS_cg (cs := cs) (tx := tx) h (fun x hx => ⟨csN_o (by omega), txN_o (by omega)⟩)]
      have := hokb.1
      omega
    · rw [hqs9]
      intro x hx
      by_cases c : x = h
      · subst c
        rw [csN_s, txN_s]
        exact ⟨fun _ => hokd, f3, hbok⟩
      · rw [csN_o c, txN_o c]
        exact hok x (by omega)
    · rw [hqs9]
      have so9 : (rGo (tkT len X) R2 r.2.1 r.2.2).2.2.2.2.1 = S.2.2.2.2.1 := hR2so
      have de9 : (rGo (tkT len X) R2 r.2.1 r.2.2).2.2.2.2.2.1 = S.2.2.2.2.2.1 := hR2de
      rw [so9, de9]
      intro x hx
      obtain ⟨u, v, s1, s2, s3, s4, s5, s6⟩ := hSD x hx
      exact ⟨u, v, s1, s2, s3, s4, fun z => by rw [row 13 (Or.inl rfl), row 14 (Or.inr rfl)]; exact s5 z, s6⟩
  · skip
    refine r_aload_n dX10_readsHouse_83 rfl ?_
    refine r_getR dX10_readsHouse_84 fl_X10_59 rfl (kM_0 hM) (pM_37 hM) ?_
    refine r_aload_n dX10_readsHouse_87 rfl ?_
    refine r_getI dX10_readsHouse_88 fl_X10_266 rfl (kM_0 hM) ?_
    rw [h27]
    refine r_iconst (v := nI 0) dX10_readsHouse_91 (by decide) ?_
    refine r_iast dX10_readsHouse_92 (aM_37 hM) (nI_in8 8 (by omega) (by decide)) (nI_clamp (by omega)) ?_
    refine r_aload_n dX10_readsHouse_93 rfl ?_
    refine r_iconst (v := nI 0) dX10_readsHouse_94 (by decide) ?_
    refine r_putI dX10_readsHouse_95 fl_X10_269 rfl rfl (kM_0 hM) ?_
    refine r_aload_n dX10_readsHouse_98 rfl ?_
    refine r_getR dX10_readsHouse_99 fl_X10_62 rfl (kM_0 hM) (pM_38 hM) ?_
    refine r_aload_n dX10_readsHouse_102 rfl ?_
    refine r_getI dX10_readsHouse_103 fl_X10_266 rfl (kM_0 hM) ?_
    rw [am_up_s, am_up_n _ _ (by decide), am_up_n _ _ (by omega), h27]
    refine r_aload_n dX10_readsHouse_106 rfl ?_
    refine r_getI dX10_readsHouse_107 fl_X10_275 rfl (kM_0 hM) ?_
    rw [am_up_s, am_up_n _ _ (by decide), h30]
    refine r_iast dX10_readsHouse_110 (aM_38 hM) (nI_in8 8 (by omega) (by decide)) (nI_clamp (by omega)) ?_
    obtain ⟨I1, hI1⟩ : ∃ Y9 : mI, Y9 = va_up (va_up (va_up I (m + 15) (va_up (I (m + 15)) h (nI 0))) m (va_up (I m) 29 (nI 0))) (m + 16) (va_up ((va_up (va_up I (m + 15) (va_up (I (m + 15)) h (nI 0))) m (va_up (I m) 29 (nI 0))) (m + 16)) h (nI top)) := ⟨_, rfl⟩
    rw [← hI1]
    have e1 : ∀ j, j ≠ 29 → I1 m j = I m j := fun j hj => by rw [hI1, am_up_n _ _ (by omega), am_up_s, am_up_n _ _ hj]
    have ea1 : ∀ a, a ≠ m → a ≠ m + 15 → a ≠ m + 16 → I1 a = I a := fun a a1 a2 a3 => by rw [hI1, am_up_n _ _ a3, am_up_n _ _ a1, am_up_n _ _ a2]
    have e29 : I1 m 29 = nI 0 := by rw [hI1, am_up_n _ _ (by omega), am_up_s, am_up_s]
    have e15 : I1 (m + 15) = va_up (I (m + 15)) h (nI 0) := by rw [hI1, am_up_n _ _ (by omega), am_up_n _ _ (by omega), am_up_s]
    have e16 : I1 (m + 16) = va_up (I (m + 16)) h (nI top) := by rw [hI1, am_up_s, am_up_n _ _ (by omega), am_up_n _ _ (by omega)]
    have hf1 : hFr m I I1 J J := ⟨fun a x => ea1 a (by omega) (by omega) (by omega), fun j x => e1 j (by omega), fun _ _ => rfl, fun _ _ => rfl, kP.same (e1 _ (by decide)) (e1 _ (by decide))⟩
    clear hI1
    have hA1 : rA m (tkT len X) I1 J S.1 := ⟨(e1 _ (by decide)).trans hA.1, hA.2.1.cg (e1 _ (by decide)) (ea1 _ (by omega) (by omega) (by omega)), hA.2.2.1.cg (fun j h1 h2 => e1 j (by omega)) rfl, hA.2.2.2⟩
    refine r_aload_n dX10_readsHouse_111 rfl ?_
    refine r_virtE (c_good m hM) lk_X10_252 mc_X10_isGood dX10_readsHouse_112 (kM_0 hM) (by decide) rfl rfl (Nat.le_of_ble_eq_true rfl) ?_
    rw [hA1.1, show decide (nI 0 = 0) = true from rfl]
    refine r_if_eq (tgt := 171) dX10_readsHouse_115 (by decide) (fun hz => absurd hz (show ¬ _ from (by decide))) (fun _ => ?_)
    refine r_aload_n dX10_readsHouse_118 rfl ?_
    refine r_virtE (c_known m (kwI (tkK (tkT len X) S.1)) hM hA1.2.2.1.2.2.1.symm) lk_X10_262 mc_X10_knownWord dX10_readsHouse_119 (kM_0 hM) (by decide) rfl rfl (Nat.le_of_ble_eq_true rfl) ?_
    rw [show kwI (tkK (tkT len X) S.1) = nI 9 from by rw [c132]; rfl]
    refine r_bipush (v := nI 9) dX10_readsHouse_122 (by decide) ?_
    refine r_icmp_ne (tgt := 171) dX10_readsHouse_124 (by decide) (fun hz => absurd (show _ from rfl) hz) (fun _ => ?_)
    refine r_aload_n dX10_readsHouse_127 rfl ?_
    refine r_virt (kc2 := 0) (ks2 := 0) (c_goesT m S.1 hM hT hA1.2.1 hA1.2.2.1 hi2) lk_X10_256 mc_X10_goes dX10_readsHouse_128 (kM_0 hM) (by decide) rfl rfl (Nat.le_of_ble_eq_true rfl) (by decide) (by decide) (fun _ _ _ _ _ _ h => nomatch h.1) ?_
    rintro v2 n2 kd2 I2 J2 P2 ⟨h00, rfl, rfl, rfl, hf2, hk2⟩
    cases h00
    simp only [Option.toList, List.nil_append]
    have hA2 := hA1.go hf2 hk2 hi2
    have k27 : I2 m 27 = nI h := (hf2.2.1 _ (by decide)).trans ((e1 _ (by decide)).trans h27)
    refine r_aload_n dX10_readsHouse_131 rfl ?_
    refine r_getR dX10_readsHouse_132 fl_X10_59 rfl (kM_0 hM) (pM_37 hM) ?_
    refine r_aload_n dX10_readsHouse_135 rfl ?_
    refine r_getI dX10_readsHouse_136 fl_X10_266 rfl (kM_0 hM) ?_
    rw [k27]
    refine r_iconst (v := nI 1) dX10_readsHouse_139 (by decide) ?_
    refine r_iast dX10_readsHouse_140 (aM_37 hM) (nI_in8 8 (by omega) (by decide)) (nI_clamp (by omega)) ?_
    refine r_aload_n dX10_readsHouse_141 rfl ?_
    refine r_getR dX10_readsHouse_142 fl_X10_68 rfl (kM_0 hM) (pM_40 hM) ?_
    refine r_aload_n dX10_readsHouse_145 rfl ?_
    refine r_getI dX10_readsHouse_146 fl_X10_266 rfl (kM_0 hM) ?_
    rw [am_up_n (b := m) _ _ (by omega), k27]
    refine r_aload_n dX10_readsHouse_149 rfl ?_
    refine r_getI dX10_readsHouse_150 fl_X10_213 rfl (kM_0 hM) ?_
    rw [am_up_n (b := m) _ _ (by omega), show I2 m 22 = nI ((tkT len X).2.2.2.1 (S.1 + 1)) from hk2.2.1]
    refine r_iast dX10_readsHouse_153 (aM_40 hM) (nI_in8 8 (by omega) (by decide)) (nI_clamp (by omega)) ?_
    obtain ⟨I3, hI3⟩ : ∃ Y9 : mI, Y9 = va_up (va_up I2 (m + 15) (va_up (I2 (m + 15)) h (nI 1))) (m + 18) (va_up (va_up I2 (m + 15) (va_up (I2 (m + 15)) h (nI 1)) (m + 18)) h (nI ((tkT len X).2.2.2.1 (S.1 + 1)))) := ⟨_, rfl⟩
    rw [← hI3]
    have e3 : I3 m = I2 m := by rw [hI3, am_up_n _ _ (by omega), am_up_n _ _ (by omega)]
    have ea3 : ∀ a, a ≠ m + 15 → a ≠ m + 18 → I3 a = I2 a := fun a a2 a3 => by rw [hI3, am_up_n _ _ a3, am_up_n _ _ a2]
    have e315 : I3 (m + 15) = va_up (I2 (m + 15)) h (nI 1) := by rw [hI3, am_up_n _ _ (by omega), am_up_s]
    have e318 : I3 (m + 18) = va_up (I2 (m + 18)) h (nI ((tkT len X).2.2.2.1 (S.1 + 1))) := by rw [hI3, am_up_s, am_up_n _ _ (by omega)]
    have hf3 : hFr m I2 I3 J2 J2 := ⟨fun a x => ea3 a (by omega) (by omega), fun j x => by rw [e3], fun _ _ => rfl, fun _ _ => rfl, kP.same (by rw [e3]) (by rw [e3])⟩
    clear hI3
    have hA3 : rA m (tkT len X) I3 J2 (S.1 + 1) := ⟨by rw [e3]; exact hA2.1, hA2.2.1.cg (by rw [e3]) (ea3 _ (by omega) (by omega)), hA2.2.2.1.cg (fun j h1 h2 => by rw [e3]) rfl, hA2.2.2.2⟩
    refine r_aload_n dX10_readsHouse_154 rfl ?_
    refine r_virt (kc2 := 0) (ks2 := 0) (c_exprR (a0 := top) hM hT h8 hA3.1 (by rw [e3]; exact k27) hA3.2.1 hA3.2.2.1 hA3.2.2.2 (by rw [e3, hf2.2.1 _ (by decide), e1 _ (by decide)]; exact h30) (by omega) (by rw [e3, hf2.2.1 _ (by decide)]; exact e29)) lk_X10_324 mc_X10_expression dX10_readsHouse_155 (kM_0 hM) (by decide) rfl rfl (Nat.le_of_ble_eq_true rfl) (by decide) (by decide) (fun _ _ _ _ _ _ h => nomatch h.1) ?_
    rintro v4 n4 kd4 I4 J4 P4 ⟨h00, rfl, rfl, rfl, hf4, hb4, hg4⟩
    cases h00
    simp only [Option.toList, List.nil_append]
    rw [← hr] at hb4 hg4
    refine r_aload_n dX10_readsHouse_158 rfl ?_
    refine r_getR dX10_readsHouse_159 fl_X10_71 rfl (kM_0 hM) (pM_41 hM) ?_
    refine r_aload_n dX10_readsHouse_162 rfl ?_
    refine r_getI dX10_readsHouse_163 fl_X10_266 rfl (kM_0 hM) ?_
    rw [hf4.2.1 27 (by decide) (by decide) (by decide) (by decide), e3, k27]
    refine r_aload_n dX10_readsHouse_166 rfl ?_
    refine r_getI dX10_readsHouse_167 fl_X10_213 rfl (kM_0 hM) ?_
    refine r_iast dX10_readsHouse_170 (aM_41 hM) (nI_in8 8 (by omega) (by decide)) (nI_clamp (by omega)) ?_
    refine r_aload_n dX10_readsHouse_171 rfl ?_
    refine r_getR dX10_readsHouse_172 fl_X10_65 rfl (kM_0 hM) (pM_39 hM) ?_
    refine r_aload_n dX10_readsHouse_175 rfl ?_
    refine r_getI dX10_readsHouse_176 fl_X10_266 rfl (kM_0 hM) ?_
    rw [am_up_n (b := m) _ _ (by omega), hf4.2.1 27 (by decide) (by decide) (by decide) (by decide), e3, k27]
    refine r_aload_n dX10_readsHouse_179 rfl ?_
    refine r_getI dX10_readsHouse_180 fl_X10_269 rfl (kM_0 hM) ?_
    refine r_iast dX10_readsHouse_183 (aM_39 hM) (nI_in8 8 (by omega) (by decide)) (nI_clamp (by omega)) ?_
    refine r_aload_n dX10_readsHouse_184 rfl ?_
    have hx := hb4 hr0
    refine r_virtE (c_good m hM) lk_X10_252 mc_X10_isGood dX10_readsHouse_185 (kM_0 hM) (by decide) rfl rfl (Nat.le_of_ble_eq_true rfl) ?_
    rw [am_up_n (b := m) _ _ (by omega), am_up_n (b := m) _ _ (by omega), hx.bad]
    refine r_if_eq (tgt := 201) dX10_readsHouse_188 (by decide) (fun _ => ?_) (fun hz => absurd (show _ from rfl) hz)
    refine r_vret rfl dX10_readsHouse_201 ?_
    refine ⟨rfl, rfl, rfl, rfl, (((((hf.tr hf1).tr (nuFr.g hf2).h).tr hf3).tr hf4.h).tr (hFr.pA (by decide))).tr (hFr.pA (by decide)), fun z => ?_, fun z => ?_⟩
    · exfalso
      rw [hS9, (hrel.2 hr0).1] at z
      exact nI_lt4 hr0 (hrel.2 hr0).2.2 z
    · rw [am_up_n (b := m) _ _ (by omega), am_up_n (b := m) _ _ (by omega), hS9, (hrel.2 hr0).1, (hrel.2 hr0).2.1]
      exact ⟨hx.1, hx.2.2⟩


/-! STREET: the reference's loop of lines, and its copies -/
theorem srt_0 {k : Int32} : nI (srt k) = 0 ↔ k = nI 0 := by
  unfold srt
  by_cases a : k = nI 0
  · rw [if_pos a]; exact ⟨fun _ => a, fun _ => rfl⟩
  · rw [if_neg a]
    refine ⟨fun z => absurd z ?_, fun z => absurd z a⟩
    split
    · decide
    · split
      · decide
      · split
        · decide
        · decide
theorem rNx_k {T : RT} {R : RS} : R.1 ≤ (rNx T R).1 ∧ (rNx T R).2 = R.2 := by
  unfold rNx
  split
  · exact ⟨Nat.le_succ _, rfl⟩
  · exact ⟨Nat.le_refl _, rfl⟩
theorem rFail_no {T : RT} {R : RS} {f : Nat} (hf : ¬ nI f = nI 0) (h : rf (rFail T (nI f) R) = nI 0) : False := by
  by_cases a : rf R = 0
  · rw [fail_f a] at h; exact hf h
  · unfold rFail at h; rw [if_neg (show ¬ R.2.1 = 0 from a)] at h; exact a h
theorem rNum_g {T : RT} {R : RS} {lo hi : Int32} (h : rf (rNumR T lo hi R) = nI 0) : rNumR T lo hi R = R := by
  unfold rNumR at h ⊢
  by_cases a : ¬ rf R = 0
  · rw [if_pos a]
  · rw [if_neg a] at h ⊢
    by_cases b : ¬ rk T R = nI 2
    · rw [if_pos b] at h; exact (rFail_no (by decide) h).elim
    · rw [if_neg b] at h ⊢
      by_cases c : 4 < T.2.2.2.2.1 R.1 - T.2.2.2.1 R.1
      · rw [if_pos c] at h; exact (rFail_no (by decide) h).elim
      · rw [if_neg c] at h ⊢
        split at h
        · exact (rFail_no (by decide) h).elim
        · rename_i q; rw [if_neg q]
def rAd (R S : RS) : Prop := rf S = nI 0 → rf R = nI 0 ∧ R.1 ≤ S.1 ∧ S.2.2.1 = R.2.2.1
theorem rAd.tr {A B C : RS} (h : rAd A B) (g : rAd B C) : rAd A C := fun z => by
  obtain ⟨a, b, c⟩ := g z
  obtain ⟨d, e, f⟩ := h a
  exact ⟨d, Nat.le_trans e b, c.trans f⟩
theorem rAd.nx {T : RT} {R : RS} : rAd R (rNx T R) := fun z => by
  obtain ⟨a, b⟩ := rNx_k (T := T) (R := R)
  exact ⟨by rw [show rf (rNx T R) = rf R from congrArg (fun q => q.1) b] at z; exact z, a, congrArg (fun q => q.2.1) b⟩
theorem rAd.num {T : RT} {R : RS} {lo hi : Int32} : rAd R (rNumR T lo hi R) := fun z => by
  have := rNum_g z
  rw [this] at z ⊢
  exact ⟨z, Nat.le_refl _, rfl⟩
theorem rAd.debts {T : RT} {h : Nat} {S : RS} : rAd S (rDebts T h S) := by
  unfold rDebts
  split
  · exact (rAd.num (T := T) (R := S)).tr ((show rAd (rNumR T (nI 0) (nI 99) S) (rDe h (rNumV T (nI 0) (nI 99) S) (rNumR T (nI 0) (nI 99) S)) from fun z => ⟨z, Nat.le_refl _, rfl⟩).tr rAd.nx)
  · exact fun z => ⟨z, Nat.le_refl _, rfl⟩
theorem rAd.sons {T : RT} {h : Nat} {S : RS} : rAd S (rSons T h S) := by
  unfold rSons
  split
  · exact ((rAd.num (T := T) (R := S)).tr ((show rAd (rNumR T (nI 0) (nI 99) S) (rSo h (rNumV T (nI 0) (nI 99) S) (rNumR T (nI 0) (nI 99) S)) from fun z => ⟨z, Nat.le_refl _, rfl⟩).tr rAd.nx)).tr rAd.debts
  · exact fun z => ⟨z, Nat.le_refl _, rfl⟩
theorem rAd.says {T : RT} {h : Nat} {S : RS} (hT : tkG T) : rAd S (rSays T h S) := by
  unfold rSays
  split
  · rename_i q
    refine (rAd.nx (T := T)).tr ((show rAd (rNx T S) (rSt (rNx T S) (SS.begin (rQ (rNx T S)))) from fun z => ⟨z, Nat.le_refl _, rfl⟩).tr ?_)
    obtain ⟨R2, hR2⟩ : ∃ R2, R2 = rSt (rNx T S) (SS.begin (rQ (rNx T S))) := ⟨_, rfl⟩
    rw [← hR2]
    have hR2f : rf R2 = 0 := by
      rw [hR2]
      show rf (rNx T S) = 0
      rw [show rf (rNx T S) = rf S from congrArg (fun q => q.1) (rNx_k (T := T) (R := S)).2]
      exact q.2
    intro z
    obtain ⟨e1, e2⟩ := expr_rel (h := h) hT 6 R2 hR2f
    by_cases r0 : (pExpr T h 6 R2.1).1 = 0
    · obtain ⟨a, b⟩ := e1 r0
      rw [b]
      exact ⟨hR2f, a, rfl⟩
    · obtain ⟨a, b, c⟩ := e2 r0
      rw [a] at z
      exact absurd z (nI_lt4 r0 c)
  · exact fun z => ⟨z, Nat.le_refl _, rfl⟩
theorem rAd.house {T : RT} {R : RS} (hT : tkG T) : rAd R (rHouse T R) := by
  unfold rHouse
  split
  · exact fun z => (rFail_no (by decide) z).elim
  · exact (show rAd R (rSt R (SS.house (rQ R))) from fun z => ⟨z, Nat.le_refl _, rfl⟩).tr (rAd.nx.tr (rAd.sons.tr (rAd.says hT)))
theorem rAd.most {T : RT} {R : RS} : rAd R (rMost T R) := by
  unfold rMost
  split
  · exact fun z => (rFail_no (by decide) z).elim
  · unfold rMost2
    have a1 : rAd R (rNx T (rMt (nI 1) R)) := (show rAd R (rMt (nI 1) R) from fun z => ⟨z, Nat.le_refl _, rfl⟩).tr rAd.nx
    have a2 : rAd R (rNumR T (nI 2) (nI 20) (rNx T (rMt (nI 1) R))) := a1.tr rAd.num
    exact (a2.tr (show rAd (rNumR T (nI 2) (nI 20) (rNx T (rMt (nI 1) R))) (rSt (rNumR T (nI 2) (nI 20) (rNx T (rMt (nI 1) R))) _) from fun z => ⟨z, Nat.le_refl _, rfl⟩)).tr rAd.nx
theorem rAd.unl {T : RT} {R : RS} : rAd R (rUnl T R) := by
  unfold rUnl
  split
  · exact fun z => (rFail_no (by decide) z).elim
  · exact (show rAd R (rSt R (SS.sun (nI 1) (rQ R))) from fun z => ⟨z, Nat.le_refl _, rfl⟩).tr rAd.nx
theorem rLine_adv {T : RT} {R : RS} (hT : tkG T) (h0 : rf (rLine T R) = nI 0) : rf R = nI 0 ∧ R.1 + 1 ≤ (rLine T R).1 ∧ (rLine T R).2.2.1 = R.2.2.1 := by
  have main : ∀ S : RS, rAd R S → rf (rPass T (nI 59) S) = nI 0 → rf R = nI 0 ∧ R.1 + 1 ≤ (rPass T (nI 59) S).1 ∧ (rPass T (nI 59) S).2.2.1 = R.2.2.1 := fun S hS z => by
    unfold rPass at z ⊢
    by_cases c : rk T S = nI 59
    · rw [if_pos c] at z ⊢
      have hi2 : S.1 + 1 < T.2.1 := hT.2.1 _ (by rw [show tkK T S.1 = nI 59 from c]; decide)
      have e : rNx T S = (S.1 + 1, S.2) := if_pos hi2
      rw [e] at z ⊢
      obtain ⟨a, b, d⟩ := hS z
      exact ⟨a, Nat.succ_le_succ b, d⟩
    · rw [if_neg c] at z
      exact (rFail_no (by decide) z).elim
  unfold rLine at h0 ⊢
  refine main _ ?_ h0
  split
  · exact rAd.most
  · split
    · exact rAd.unl
    · split
      · exact rAd.house hT
      · exact fun z => (rFail_no (by decide) z).elim
theorem rLines_pl {T : RT} (hT : tkG T) : ∀ (k : Nat) (R : RS), rf (rLines T k R) = nI 0 → (rLines T k R).2.2.1 = R.2.2.1
  | 0, R, _ => rfl
  | k + 1, R, h => by
    unfold rLines at h ⊢
    by_cases q : ¬ rk T R = 0 ∧ rf R = 0
    · rw [if_pos q] at h ⊢
      rw [rLines_pl hT k _ h]
      by_cases z : rf (rLine T R) = nI 0
      · exact (rLine_adv hT z).2.2
      · exfalso
        have : ∀ (j : Nat) (S : RS), ¬ rf S = nI 0 → ¬ rf (rLines T j S) = nI 0 := fun j S hS => by
          cases j with
          | zero => exact hS
          | succ j => unfold rLines; rw [if_neg (fun w => hS w.2)]; exact hS
        exact this k _ z h
    · rw [if_neg q]
theorem dX10_street_0 : decode cX10_street 0 = .ok (.aload_n 0, 1) := by decide +kernel
theorem dX10_street_1 : decode cX10_street 1 = .ok (.iconst 0, 1) := by decide +kernel
theorem dX10_street_2 : decode cX10_street 2 = .ok (.putfield 193, 3) := by decide +kernel
theorem dX10_street_5 : decode cX10_street 5 = .ok (.aload_n 0, 1) := by decide +kernel
theorem dX10_street_6 : decode cX10_street 6 = .ok (.iload_n 1, 1) := by decide +kernel
theorem dX10_street_7 : decode cX10_street 7 = .ok (.ifCond .lt 15, 3) := by decide +kernel
theorem dX10_street_10 : decode cX10_street 10 = .ok (.iload_n 1, 1) := by decide +kernel
theorem dX10_street_11 : decode cX10_street 11 = .ok (.aload_n 0, 1) := by decide +kernel
theorem dX10_street_12 : decode cX10_street 12 = .ok (.getfield 196, 3) := by decide +kernel
theorem dX10_street_15 : decode cX10_street 15 = .ok (.if_icmp .gt 7, 3) := by decide +kernel
theorem dX10_street_18 : decode cX10_street 18 = .ok (.iconst 1, 1) := by decide +kernel
theorem dX10_street_19 : decode cX10_street 19 = .ok (.goto 4, 3) := by decide +kernel
theorem dX10_street_22 : decode cX10_street 22 = .ok (.iconst 0, 1) := by decide +kernel
theorem dX10_street_23 : decode cX10_street 23 = .ok (.iconst 1, 1) := by decide +kernel
theorem dX10_street_24 : decode cX10_street 24 = .ok (.invokevirtual 343, 3) := by decide +kernel
theorem dX10_street_27 : decode cX10_street 27 = .ok (.ifCond .ne 5, 3) := by decide +kernel
theorem dX10_street_30 : decode cX10_street 30 = .ok (.iconst 0, 1) := by decide +kernel
theorem dX10_street_31 : decode cX10_street 31 = .ok (.ireturn, 1) := by decide +kernel
theorem dX10_street_32 : decode cX10_street 32 = .ok (.aload_n 0, 1) := by decide +kernel
theorem dX10_street_33 : decode cX10_street 33 = .ok (.iconst 0, 1) := by decide +kernel
theorem dX10_street_34 : decode cX10_street 34 = .ok (.putfield 196, 3) := by decide +kernel
theorem dX10_street_37 : decode cX10_street 37 = .ok (.aload_n 0, 1) := by decide +kernel
theorem dX10_street_38 : decode cX10_street 38 = .ok (.iconst (-1), 1) := by decide +kernel
theorem dX10_street_39 : decode cX10_street 39 = .ok (.putfield 47, 3) := by decide +kernel
theorem dX10_street_42 : decode cX10_street 42 = .ok (.aload_n 0, 1) := by decide +kernel
theorem dX10_street_43 : decode cX10_street 43 = .ok (.iconst 0, 1) := by decide +kernel
theorem dX10_street_44 : decode cX10_street 44 = .ok (.putfield 249, 3) := by decide +kernel
theorem dX10_street_47 : decode cX10_street 47 = .ok (.aload_n 0, 1) := by decide +kernel
theorem dX10_street_48 : decode cX10_street 48 = .ok (.iload_n 1, 1) := by decide +kernel
theorem dX10_street_49 : decode cX10_street 49 = .ok (.putfield 203, 3) := by decide +kernel
theorem dX10_street_52 : decode cX10_street 52 = .ok (.aload_n 0, 1) := by decide +kernel
theorem dX10_street_53 : decode cX10_street 53 = .ok (.iconst 0, 1) := by decide +kernel
theorem dX10_street_54 : decode cX10_street 54 = .ok (.putfield 206, 3) := by decide +kernel
theorem dX10_street_57 : decode cX10_street 57 = .ok (.aload_n 0, 1) := by decide +kernel
theorem dX10_street_58 : decode cX10_street 58 = .ok (.iconst 0, 1) := by decide +kernel
theorem dX10_street_59 : decode cX10_street 59 = .ok (.putfield 266, 3) := by decide +kernel
theorem dX10_street_62 : decode cX10_street 62 = .ok (.aload_n 0, 1) := by decide +kernel
theorem dX10_street_63 : decode cX10_street 63 = .ok (.bipush 9, 2) := by decide +kernel
theorem dX10_street_65 : decode cX10_street 65 = .ok (.putfield 331, 3) := by decide +kernel
theorem dX10_street_68 : decode cX10_street 68 = .ok (.aload_n 0, 1) := by decide +kernel
theorem dX10_street_69 : decode cX10_street 69 = .ok (.iconst 0, 1) := by decide +kernel
theorem dX10_street_70 : decode cX10_street 70 = .ok (.putfield 334, 3) := by decide +kernel
theorem dX10_street_73 : decode cX10_street 73 = .ok (.aload_n 0, 1) := by decide +kernel
theorem dX10_street_74 : decode cX10_street 74 = .ok (.iconst 0, 1) := by decide +kernel
theorem dX10_street_75 : decode cX10_street 75 = .ok (.putfield 327, 3) := by decide +kernel
theorem dX10_street_78 : decode cX10_street 78 = .ok (.aload_n 0, 1) := by decide +kernel
theorem dX10_street_79 : decode cX10_street 79 = .ok (.iconst 0, 1) := by decide +kernel
theorem dX10_street_80 : decode cX10_street 80 = .ok (.putfield 275, 3) := by decide +kernel
theorem dX10_street_83 : decode cX10_street 83 = .ok (.aload_n 0, 1) := by decide +kernel
theorem dX10_street_84 : decode cX10_street 84 = .ok (.invokevirtual 256, 3) := by decide +kernel
theorem dX10_street_87 : decode cX10_street 87 = .ok (.aload_n 0, 1) := by decide +kernel
theorem dX10_street_88 : decode cX10_street 88 = .ok (.invokevirtual 252, 3) := by decide +kernel
theorem dX10_street_91 : decode cX10_street 91 = .ok (.ifCond .eq 17, 3) := by decide +kernel
theorem dX10_street_94 : decode cX10_street 94 = .ok (.aload_n 0, 1) := by decide +kernel
theorem dX10_street_95 : decode cX10_street 95 = .ok (.getfield 226, 3) := by decide +kernel
theorem dX10_street_98 : decode cX10_street 98 = .ok (.ifCond .eq 10, 3) := by decide +kernel
theorem dX10_street_101 : decode cX10_street 101 = .ok (.aload_n 0, 1) := by decide +kernel
theorem dX10_street_102 : decode cX10_street 102 = .ok (.invokevirtual 347, 3) := by decide +kernel
theorem dX10_street_105 : decode cX10_street 105 = .ok (.goto (-18), 3) := by decide +kernel
theorem dX10_street_108 : decode cX10_street 108 = .ok (.aload_n 0, 1) := by decide +kernel
theorem dX10_street_109 : decode cX10_street 109 = .ok (.invokevirtual 252, 3) := by decide +kernel
theorem dX10_street_112 : decode cX10_street 112 = .ok (.ifCond .ne 18, 3) := by decide +kernel
theorem dX10_street_115 : decode cX10_street 115 = .ok (.aload_n 0, 1) := by decide +kernel
theorem dX10_street_116 : decode cX10_street 116 = .ok (.getfield 50, 3) := by decide +kernel
theorem dX10_street_119 : decode cX10_street 119 = .ok (.iconst 0, 1) := by decide +kernel
theorem dX10_street_120 : decode cX10_street 120 = .ok (.dup2, 1) := by decide +kernel
theorem dX10_street_121 : decode cX10_street 121 = .ok (.iaload, 1) := by decide +kernel
theorem dX10_street_122 : decode cX10_street 122 = .ok (.iconst 1, 1) := by decide +kernel
theorem dX10_street_123 : decode cX10_street 123 = .ok (.iadd, 1) := by decide +kernel
theorem dX10_street_124 : decode cX10_street 124 = .ok (.iastore, 1) := by decide +kernel
theorem dX10_street_125 : decode cX10_street 125 = .ok (.aload_n 0, 1) := by decide +kernel
theorem dX10_street_126 : decode cX10_street 126 = .ok (.getfield 249, 3) := by decide +kernel
theorem dX10_street_129 : decode cX10_street 129 = .ok (.ireturn, 1) := by decide +kernel
theorem dX10_street_130 : decode cX10_street 130 = .ok (.aload_n 0, 1) := by decide +kernel
theorem dX10_street_131 : decode cX10_street 131 = .ok (.aload_n 0, 1) := by decide +kernel
theorem dX10_street_132 : decode cX10_street 132 = .ok (.getfield 266, 3) := by decide +kernel
theorem dX10_street_135 : decode cX10_street 135 = .ok (.putfield 350, 3) := by decide +kernel
theorem dX10_street_138 : decode cX10_street 138 = .ok (.aload_n 0, 1) := by decide +kernel
theorem dX10_street_139 : decode cX10_street 139 = .ok (.aload_n 0, 1) := by decide +kernel
theorem dX10_street_140 : decode cX10_street 140 = .ok (.getfield 331, 3) := by decide +kernel
theorem dX10_street_143 : decode cX10_street 143 = .ok (.putfield 7, 3) := by decide +kernel
theorem dX10_street_146 : decode cX10_street 146 = .ok (.aload_n 0, 1) := by decide +kernel
theorem dX10_street_147 : decode cX10_street 147 = .ok (.aload_n 0, 1) := by decide +kernel
theorem dX10_street_148 : decode cX10_street 148 = .ok (.getfield 334, 3) := by decide +kernel
theorem dX10_street_151 : decode cX10_street 151 = .ok (.putfield 353, 3) := by decide +kernel
theorem dX10_street_154 : decode cX10_street 154 = .ok (.aload_n 0, 1) := by decide +kernel
theorem dX10_street_155 : decode cX10_street 155 = .ok (.aload_n 0, 1) := by decide +kernel
theorem dX10_street_156 : decode cX10_street 156 = .ok (.getfield 53, 3) := by decide +kernel
theorem dX10_street_159 : decode cX10_street 159 = .ok (.aload_n 0, 1) := by decide +kernel
theorem dX10_street_160 : decode cX10_street 160 = .ok (.getfield 13, 3) := by decide +kernel
theorem dX10_street_163 : decode cX10_street 163 = .ok (.invokevirtual 356, 3) := by decide +kernel
theorem dX10_street_166 : decode cX10_street 166 = .ok (.aload_n 0, 1) := by decide +kernel
theorem dX10_street_167 : decode cX10_street 167 = .ok (.aload_n 0, 1) := by decide +kernel
theorem dX10_street_168 : decode cX10_street 168 = .ok (.getfield 56, 3) := by decide +kernel
theorem dX10_street_171 : decode cX10_street 171 = .ok (.aload_n 0, 1) := by decide +kernel
theorem dX10_street_172 : decode cX10_street 172 = .ok (.getfield 17, 3) := by decide +kernel
theorem dX10_street_175 : decode cX10_street 175 = .ok (.invokevirtual 356, 3) := by decide +kernel
theorem dX10_street_178 : decode cX10_street 178 = .ok (.aload_n 0, 1) := by decide +kernel
theorem dX10_street_179 : decode cX10_street 179 = .ok (.aload_n 0, 1) := by decide +kernel
theorem dX10_street_180 : decode cX10_street 180 = .ok (.getfield 59, 3) := by decide +kernel
theorem dX10_street_183 : decode cX10_street 183 = .ok (.aload_n 0, 1) := by decide +kernel
theorem dX10_street_184 : decode cX10_street 184 = .ok (.getfield 20, 3) := by decide +kernel
theorem dX10_street_187 : decode cX10_street 187 = .ok (.invokevirtual 356, 3) := by decide +kernel
theorem dX10_street_190 : decode cX10_street 190 = .ok (.aload_n 0, 1) := by decide +kernel
theorem dX10_street_191 : decode cX10_street 191 = .ok (.aload_n 0, 1) := by decide +kernel
theorem dX10_street_192 : decode cX10_street 192 = .ok (.getfield 62, 3) := by decide +kernel
theorem dX10_street_195 : decode cX10_street 195 = .ok (.aload_n 0, 1) := by decide +kernel
theorem dX10_street_196 : decode cX10_street 196 = .ok (.getfield 26, 3) := by decide +kernel
theorem dX10_street_199 : decode cX10_street 199 = .ok (.invokevirtual 356, 3) := by decide +kernel
theorem dX10_street_202 : decode cX10_street 202 = .ok (.aload_n 0, 1) := by decide +kernel
theorem dX10_street_203 : decode cX10_street 203 = .ok (.aload_n 0, 1) := by decide +kernel
theorem dX10_street_204 : decode cX10_street 204 = .ok (.getfield 74, 3) := by decide +kernel
theorem dX10_street_207 : decode cX10_street 207 = .ok (.aload_n 0, 1) := by decide +kernel
theorem dX10_street_208 : decode cX10_street 208 = .ok (.getfield 32, 3) := by decide +kernel
theorem dX10_street_211 : decode cX10_street 211 = .ok (.invokevirtual 356, 3) := by decide +kernel
theorem dX10_street_214 : decode cX10_street 214 = .ok (.iconst 0, 1) := by decide +kernel
theorem dX10_street_215 : decode cX10_street 215 = .ok (.istore_n 2, 1) := by decide +kernel
theorem dX10_street_216 : decode cX10_street 216 = .ok (.iload_n 2, 1) := by decide +kernel
theorem dX10_street_217 : decode cX10_street 217 = .ok (.bipush 8, 2) := by decide +kernel
theorem dX10_street_219 : decode cX10_street 219 = .ok (.if_icmp .ge 28, 3) := by decide +kernel
theorem dX10_street_222 : decode cX10_street 222 = .ok (.aload_n 0, 1) := by decide +kernel
theorem dX10_street_223 : decode cX10_street 223 = .ok (.getfield 29, 3) := by decide +kernel
theorem dX10_street_226 : decode cX10_street 226 = .ok (.iload_n 2, 1) := by decide +kernel
theorem dX10_street_227 : decode cX10_street 227 = .ok (.aload_n 0, 1) := by decide +kernel
theorem dX10_street_228 : decode cX10_street 228 = .ok (.getfield 65, 3) := by decide +kernel
theorem dX10_street_231 : decode cX10_street 231 = .ok (.iload_n 2, 1) := by decide +kernel
theorem dX10_street_232 : decode cX10_street 232 = .ok (.iaload, 1) := by decide +kernel
theorem dX10_street_233 : decode cX10_street 233 = .ok (.iastore, 1) := by decide +kernel
theorem dX10_street_234 : decode cX10_street 234 = .ok (.aload_n 0, 1) := by decide +kernel
theorem dX10_street_235 : decode cX10_street 235 = .ok (.getfield 23, 3) := by decide +kernel
theorem dX10_street_238 : decode cX10_street 238 = .ok (.iload_n 2, 1) := by decide +kernel
theorem dX10_street_239 : decode cX10_street 239 = .ok (.iconst 0, 1) := by decide +kernel
theorem dX10_street_240 : decode cX10_street 240 = .ok (.iastore, 1) := by decide +kernel
theorem dX10_street_241 : decode cX10_street 241 = .ok (.iinc 2 1, 3) := by decide +kernel
theorem dX10_street_244 : decode cX10_street 244 = .ok (.goto (-28), 3) := by decide +kernel
theorem dX10_street_247 : decode cX10_street 247 = .ok (.iconst 0, 1) := by decide +kernel
theorem dX10_street_248 : decode cX10_street 248 = .ok (.istore_n 2, 1) := by decide +kernel
theorem dX10_street_249 : decode cX10_street 249 = .ok (.iload_n 2, 1) := by decide +kernel
theorem dX10_street_250 : decode cX10_street 250 = .ok (.iload_n 1, 1) := by decide +kernel
theorem dX10_street_251 : decode cX10_street 251 = .ok (.if_icmp .ge 21, 3) := by decide +kernel
theorem dX10_street_254 : decode cX10_street 254 = .ok (.aload_n 0, 1) := by decide +kernel
theorem dX10_street_255 : decode cX10_street 255 = .ok (.getfield 35, 3) := by decide +kernel
theorem dX10_street_258 : decode cX10_street 258 = .ok (.iload_n 2, 1) := by decide +kernel
theorem dX10_street_259 : decode cX10_street 259 = .ok (.aload_n 0, 1) := by decide +kernel
theorem dX10_street_260 : decode cX10_street 260 = .ok (.getfield 44, 3) := by decide +kernel
theorem dX10_street_263 : decode cX10_street 263 = .ok (.iload_n 2, 1) := by decide +kernel
theorem dX10_street_264 : decode cX10_street 264 = .ok (.iaload, 1) := by decide +kernel
theorem dX10_street_265 : decode cX10_street 265 = .ok (.iastore, 1) := by decide +kernel
theorem dX10_street_266 : decode cX10_street 266 = .ok (.iinc 2 1, 3) := by decide +kernel
theorem dX10_street_269 : decode cX10_street 269 = .ok (.goto (-20), 3) := by decide +kernel
theorem dX10_street_272 : decode cX10_street 272 = .ok (.aload_n 0, 1) := by decide +kernel
theorem dX10_street_273 : decode cX10_street 273 = .ok (.aload_n 0, 1) := by decide +kernel
theorem dX10_street_274 : decode cX10_street 274 = .ok (.getfield 68, 3) := by decide +kernel
theorem dX10_street_277 : decode cX10_street 277 = .ok (.aload_n 0, 1) := by decide +kernel
theorem dX10_street_278 : decode cX10_street 278 = .ok (.getfield 38, 3) := by decide +kernel
theorem dX10_street_281 : decode cX10_street 281 = .ok (.invokevirtual 356, 3) := by decide +kernel
theorem dX10_street_284 : decode cX10_street 284 = .ok (.aload_n 0, 1) := by decide +kernel
theorem dX10_street_285 : decode cX10_street 285 = .ok (.aload_n 0, 1) := by decide +kernel
theorem dX10_street_286 : decode cX10_street 286 = .ok (.getfield 71, 3) := by decide +kernel
theorem dX10_street_289 : decode cX10_street 289 = .ok (.aload_n 0, 1) := by decide +kernel
theorem dX10_street_290 : decode cX10_street 290 = .ok (.getfield 41, 3) := by decide +kernel
theorem dX10_street_293 : decode cX10_street 293 = .ok (.invokevirtual 356, 3) := by decide +kernel
theorem dX10_street_296 : decode cX10_street 296 = .ok (.aload_n 0, 1) := by decide +kernel
theorem dX10_street_297 : decode cX10_street 297 = .ok (.iconst (-1), 1) := by decide +kernel
theorem dX10_street_298 : decode cX10_street 298 = .ok (.putfield 139, 3) := by decide +kernel
theorem dX10_street_301 : decode cX10_street 301 = .ok (.aload_n 0, 1) := by decide +kernel
theorem dX10_street_302 : decode cX10_street 302 = .ok (.iconst 0, 1) := by decide +kernel
theorem dX10_street_303 : decode cX10_street 303 = .ok (.putfield 360, 3) := by decide +kernel
theorem dX10_street_306 : decode cX10_street 306 = .ok (.aload_n 0, 1) := by decide +kernel
theorem dX10_street_307 : decode cX10_street 307 = .ok (.iconst 0, 1) := by decide +kernel
theorem dX10_street_308 : decode cX10_street 308 = .ok (.putfield 363, 3) := by decide +kernel
theorem dX10_street_311 : decode cX10_street 311 = .ok (.aload_n 0, 1) := by decide +kernel
theorem dX10_street_312 : decode cX10_street 312 = .ok (.iconst 0, 1) := by decide +kernel
theorem dX10_street_313 : decode cX10_street 313 = .ok (.putfield 366, 3) := by decide +kernel
theorem dX10_street_316 : decode cX10_street 316 = .ok (.iconst 0, 1) := by decide +kernel
theorem dX10_street_317 : decode cX10_street 317 = .ok (.ireturn, 1) := by decide +kernel

set_option maxHeartbeats 4000000 in
set_option maxRecDepth 100000 in
theorem w_st87 {m len : Nat} {X : Nat → Int32} {n : Nat} {kd : mK} {P : mP} {J0 : mJ} {I0 : mI} {post : am_Post} {N0 : Int32} {l2 : Option Value} (hM : kM kd P m) (hl : len ≤ 500) : ∀ (k : Nat) (R : RS) (I : mI) (J : mJ), (rf R = nI 0 → (tkT len X).2.1 ≤ R.1 + k) → rPo m len X 0 R I J → hFr m I0 I J0 J → (∀ (I9 : mI) (J9 : mJ), hFr m I0 I9 J0 J9 → rPo m len X 0 (rLines (tkT len X) k R) I9 J9 → Ru yX10_street.cls cX10_street 3 (some .int) yX10_street.name 15 (post) 0 0 108 [some (.ref m), some (.int N0), l2] [] n kd I9 J9 P) → Ru yX10_street.cls cX10_street 3 (some .int) yX10_street.name 15 (post) 0 0 87 [some (.ref m), some (.int N0), l2] [] n kd I J P := by
  have hT := tkA_of (X := X) hl
  intro k
  induction k with
  | zero =>
    intro R I J hk hP hf hend
    have hE : rLines (tkT len X) 0 R = R := rfl
    by_cases c : rf R = nI 0
    · exfalso
      obtain ⟨cs, tx, hR⟩ := hP.1 c
      have := hk c
      have := hR.1.2.2.2.2
      omega
    · have hB : decide (I m 16 = 0) = false := by rw [(hP.2 c).1, decide_eq_false (show ¬ rf R = 0 from c)]
      refine r_aload_n dX10_street_87 rfl ?_
      refine r_virtE (c_good m hM) lk_X10_252 mc_X10_isGood dX10_street_88 (kM_0 hM) (by decide) rfl rfl (Nat.le_of_ble_eq_true rfl) ?_
      rw [hB]
      refine r_if_eq (tgt := 108) dX10_street_91 (by decide) (fun _ => ?_) (fun hz => absurd (show _ from rfl) hz)
      exact hend _ _ hf (by rw [hE]; exact hP)
  | succ k ih =>
    intro R I J hk hP hf hend
    by_cases c : rf R = nI 0
    · obtain ⟨cs, tx, hR⟩ := hP.1 c
      have hA := hR.1.2
      have h21 : I m 21 = nI (srt (tkK (tkT len X) R.1)) := hA.2.2.1.2.2.2.1
      by_cases q : tkK (tkT len X) R.1 = nI 0
      · have hE : rLines (tkT len X) (k + 1) R = R := by
          show (if ¬ rk (tkT len X) R = 0 ∧ rf R = 0 then _ else R) = R
          exact if_neg (fun w => w.1 q)
        refine r_aload_n dX10_street_87 rfl ?_
        refine r_virtE (c_good m hM) lk_X10_252 mc_X10_isGood dX10_street_88 (kM_0 hM) (by decide) rfl rfl (Nat.le_of_ble_eq_true rfl) ?_
        rw [hA.1, show decide (nI 0 = 0) = true from rfl]
        refine r_if_eq (tgt := 108) dX10_street_91 (by decide) (fun hz => absurd hz (show ¬ _ from (by decide))) (fun _ => ?_)
        refine r_aload_n dX10_street_94 rfl ?_
        refine r_getI dX10_street_95 fl_X10_226 rfl (kM_0 hM) ?_
        rw [h21]
        refine r_if_eq (tgt := 108) dX10_street_98 (by decide) (fun _ => ?_) (fun hz => absurd (show _ from (srt_0.mpr q)) hz)
        exact hend _ _ hf (by rw [hE]; exact hP)
      · have hE : rLines (tkT len X) (k + 1) R = rLines (tkT len X) k (rLine (tkT len X) R) := by
          show (if ¬ rk (tkT len X) R = 0 ∧ rf R = 0 then _ else R) = _
          exact if_pos ⟨q, c⟩
        rw [hE] at hend
        refine r_aload_n dX10_street_87 rfl ?_
        refine r_virtE (c_good m hM) lk_X10_252 mc_X10_isGood dX10_street_88 (kM_0 hM) (by decide) rfl rfl (Nat.le_of_ble_eq_true rfl) ?_
        rw [hA.1, show decide (nI 0 = 0) = true from rfl]
        refine r_if_eq (tgt := 108) dX10_street_91 (by decide) (fun hz => absurd hz (show ¬ _ from (by decide))) (fun _ => ?_)
        refine r_aload_n dX10_street_94 rfl ?_
        refine r_getI dX10_street_95 fl_X10_226 rfl (kM_0 hM) ?_
        rw [h21]
        refine r_if_eq (tgt := 108) dX10_street_98 (by decide) (fun hz => absurd hz (show ¬ _ from (fun z => q (srt_0.mp z)))) (fun _ => ?_)
        refine r_aload_n dX10_street_101 rfl ?_
        refine r_virt (kc2 := 0) (ks2 := 0) (c_lineR hM hl hR) lk_X10_347 mc_X10_line dX10_street_102 (kM_0 hM) (by decide) rfl rfl (Nat.le_of_ble_eq_true rfl) (by decide) (by decide) (fun _ _ _ _ _ _ h => nomatch h.1) ?_
        rintro v2 n2 kd2 I2 J2 P2 ⟨h00, rfl, rfl, rfl, hf2, hp2⟩
        cases h00
        simp only [Option.toList, List.nil_append]
        refine r_goto (tgt := 87) dX10_street_105 (by decide) ?_
        refine ih _ _ _ (fun z => ?_) hp2 (hf.tr hf2) hend
        have h1 := hk c
        have h2 := (rLine_adv hT.1 z).2.1
        omega
    · have hE : rLines (tkT len X) (k + 1) R = R := by
        show (if ¬ rk (tkT len X) R = 0 ∧ rf R = 0 then _ else R) = R
        exact if_neg (fun w => c w.2)
      have hB : decide (I m 16 = 0) = false := by rw [(hP.2 c).1, decide_eq_false (show ¬ rf R = 0 from c)]
      refine r_aload_n dX10_street_87 rfl ?_
      refine r_virtE (c_good m hM) lk_X10_252 mc_X10_isGood dX10_street_88 (kM_0 hM) (by decide) rfl rfl (Nat.le_of_ble_eq_true rfl) ?_
      rw [hB]
      refine r_if_eq (tgt := 108) dX10_street_91 (by decide) (fun _ => ?_) (fun hz => absurd (show _ from rfl) hz)
      exact hend _ _ hf (by rw [hE]; exact hP)

set_option maxHeartbeats 4000000 in
set_option maxRecDepth 100000 in
theorem w_st249 {m N : Nat} {n : Nat} {kd : mK} {P : mP} {J : mJ} {post : am_Post} (hM : kM kd P m) (hN : N ≤ 500) : ∀ (k i : Nat), i + k = N → ∀ (I : mI), (∀ I9 : mI, (∀ a, a ≠ m + 8 → I9 a = I a) → (∀ j, j < i → I9 (m + 8) j = I (m + 8) j) → (∀ j, i ≤ j → j < N → I9 (m + 8) j = I (m + 11) j) → Ru yX10_street.cls cX10_street 3 (some .int) yX10_street.name 15 (post) 0 0 272 [some (.ref m), some (.int (nI N)), some (.int (nI N))] [] n kd I9 J P) → Ru yX10_street.cls cX10_street 3 (some .int) yX10_street.name 15 (post) 0 0 249 [some (.ref m), some (.int (nI N)), some (.int (nI i))] [] n kd I J P := by
  intro k
  induction k with
  | zero =>
    intro i hi I hend
    have hi : i = N := by omega
    subst hi
    refine r_iload_n dX10_street_249 rfl ?_
    refine r_iload_n dX10_street_250 rfl ?_
    refine r_icmp_ge (tgt := 272) dX10_street_251 (by decide) (fun _ => ?_) (fun hz => absurd (show _ from (by rw [nI_leI (by omega) (by omega)]; omega)) hz)
    exact hend I (fun _ _ => rfl) (fun _ _ => rfl) (fun j h1 h2 => by omega)
  | succ k ih =>
    intro i hi I hend
    refine r_iload_n dX10_street_249 rfl ?_
    refine r_iload_n dX10_street_250 rfl ?_
    refine r_icmp_ge (tgt := 272) dX10_street_251 (by decide) (fun hz => absurd hz (show ¬ _ from (by rw [nI_leI (by omega) (by omega)]; omega))) (fun _ => ?_)
    refine r_aload_n dX10_street_254 rfl ?_
    refine r_getR dX10_street_255 fl_X10_35 rfl (kM_0 hM) (pM_11 hM) ?_
    refine r_iload_n dX10_street_258 rfl ?_
    refine r_aload_n dX10_street_259 rfl ?_
    refine r_getR dX10_street_260 fl_X10_44 rfl (kM_0 hM) (pM_14 hM) ?_
    refine r_iload_n dX10_street_263 rfl ?_
    refine r_iald dX10_street_264 (aM_14 hM) (nI_in8 (j := i) 500 (by omega) (by decide)) (nI_clamp (by omega)) ?_
    refine r_iast dX10_street_265 (aM_11 hM) (nI_in8 500 (by omega) (by decide)) (nI_clamp (by omega)) ?_
    refine r_iinc dX10_street_266 rfl rfl ?_
    rw [nI_inc]
    refine r_goto (tgt := 249) dX10_street_269 (by decide) ?_
    refine ih (i + 1) (by omega) _ (fun I9 e1 e2 e3 => hend I9 (fun a ha => (e1 a ha).trans (am_up_n _ _ ha)) (fun j hj => by rw [e2 j (by omega), am_up_s, am_up_n _ _ (by omega)]) (fun j h1 h2 => ?_))
    by_cases c : j = i
    · rw [c, e2 i (by omega), am_up_s, am_up_s]
    · rw [e3 j (by omega) h2, am_up_n _ _ (by omega)]

set_option maxHeartbeats 4000000 in
set_option maxRecDepth 100000 in
theorem w_st216 {m : Nat} {n : Nat} {kd : mK} {P : mP} {J : mJ} {post : am_Post} {N0 : Int32} (hM : kM kd P m) : ∀ (k i : Nat), i + k = 8 → ∀ (I : mI), (∀ I9 : mI, (∀ a, a ≠ m + 6 → a ≠ m + 4 → I9 a = I a) → (∀ j, j < i → I9 (m + 6) j = I (m + 6) j ∧ I9 (m + 4) j = I (m + 4) j) → (∀ j, i ≤ j → j < 8 → I9 (m + 6) j = I (m + 17) j ∧ I9 (m + 4) j = nI 0) → Ru yX10_street.cls cX10_street 3 (some .int) yX10_street.name 15 (post) 0 0 247 [some (.ref m), some (.int N0), some (.int (nI 8))] [] n kd I9 J P) → Ru yX10_street.cls cX10_street 3 (some .int) yX10_street.name 15 (post) 0 0 216 [some (.ref m), some (.int N0), some (.int (nI i))] [] n kd I J P := by
  intro k
  induction k with
  | zero =>
    intro i hi I hend
    have hi : i = 8 := by omega
    subst hi
    refine r_iload_n dX10_street_216 rfl ?_
    refine r_bipush (v := nI 8) dX10_street_217 (by decide) ?_
    refine r_icmp_ge (tgt := 247) dX10_street_219 (by decide) (fun _ => ?_) (fun hz => absurd (show _ from (by decide)) hz)
    exact hend I (fun _ _ _ => rfl) (fun _ _ => ⟨rfl, rfl⟩) (fun j h1 h2 => by omega)
  | succ k ih =>
    intro i hi I hend
    refine r_iload_n dX10_street_216 rfl ?_
    refine r_bipush (v := nI 8) dX10_street_217 (by decide) ?_
    refine r_icmp_ge (tgt := 247) dX10_street_219 (by decide) (fun hz => absurd hz (show ¬ _ from (by rw [nI_leI (by omega) (by omega)]; omega))) (fun _ => ?_)
    refine r_aload_n dX10_street_222 rfl ?_
    refine r_getR dX10_street_223 fl_X10_29 rfl (kM_0 hM) (pM_9 hM) ?_
    refine r_iload_n dX10_street_226 rfl ?_
    refine r_aload_n dX10_street_227 rfl ?_
    refine r_getR dX10_street_228 fl_X10_65 rfl (kM_0 hM) (pM_39 hM) ?_
    refine r_iload_n dX10_street_231 rfl ?_
    refine r_iald dX10_street_232 (aM_39 hM) (nI_in8 (j := i) 8 (by omega) (by decide)) (nI_clamp (by omega)) ?_
    refine r_iast dX10_street_233 (aM_9 hM) (nI_in8 8 (by omega) (by decide)) (nI_clamp (by omega)) ?_
    refine r_aload_n dX10_street_234 rfl ?_
    refine r_getR dX10_street_235 fl_X10_23 rfl (kM_0 hM) (pM_7 hM) ?_
    refine r_iload_n dX10_street_238 rfl ?_
    refine r_iconst (v := nI 0) dX10_street_239 (by decide) ?_
    refine r_iast dX10_street_240 (aM_7 hM) (nI_in8 8 (by omega) (by decide)) (nI_clamp (by omega)) ?_
    refine r_iinc dX10_street_241 rfl rfl ?_
    rw [nI_inc]
    refine r_goto (tgt := 216) dX10_street_244 (by decide) ?_
    refine ih (i + 1) (by omega) _ (fun I9 e1 e2 e3 => hend I9 (fun a h1 h2 => by rw [e1 a h1 h2, am_up_n _ _ h2, am_up_n _ _ h1]) (fun j hj => ?_) (fun j h1 h2 => ?_))
    · obtain ⟨a, b⟩ := e2 j (by omega)
      rw [a, b, am_up_s, am_up_n _ _ (by omega), am_up_s, am_up_n _ _ (by omega), am_up_n _ _ (by omega), am_up_n _ _ (by omega)]
      exact ⟨rfl, rfl⟩
    · by_cases c : j = i
      · obtain ⟨a, b⟩ := e2 i (by omega)
        rw [c, a, b, am_up_s, am_up_s, am_up_n _ _ (by omega), am_up_s, am_up_s]
        exact ⟨rfl, rfl⟩
      · obtain ⟨a, b⟩ := e3 j (by omega) h2
        rw [a, b, am_up_n _ _ (by omega), am_up_n _ _ (by omega)]
        exact ⟨rfl, rfl⟩


/-! WHETHER A LAW IS BROKEN: the class -/
theorem nI_m2 {k : Nat} (h : k < 2 ^ 31) : ¬ nI k = -2 := fun z => by
  have h1 := nI_pos h
  rw [z] at h1
  exact h1 (by decide)
theorem and_m1 (x : Int32) : x &&& (nI 0 ^^^ (-1)) = x := b_ext (fun i hi => by rw [b_and, b_xor, b_m1 i hi, bt_nI 0 hi, Nat.zero_testBit]; simp)
theorem kn1_rng {R : Nat → Int32} {ok : Nat → Bool} : ∀ (c s : Nat) {v : Int32}, kn1 R ok c s = some v → v = -2 ∨ ∃ t, t < s + c ∧ v = nI t
  | 0, s, v, h => nomatch h
  | c + 1, s, v, h => by
    unfold kn1 at h
    split at h
    · cases h
      split
      · exact Or.inl rfl
      · exact Or.inr ⟨s, by omega, rfl⟩
    · rcases kn1_rng c (s + 1) h with q | ⟨t, ht, q⟩
      · exact Or.inl q
      · exact Or.inr ⟨t, by omega, q⟩
theorem kn2_rng {R : Nat → Int32} {p : Nat} : ∀ (c z : Nat), kn2 R p 256 c z = -1 ∨ kn2 R p 256 c z = -2 ∨ ∃ t, t < 256 ∧ kn2 R p 256 c z = nI t
  | 0, z => Or.inl rfl
  | c + 1, z => by
    unfold kn2
    cases hx : kn1 R (okK p z) 256 0 with
    | none => exact kn2_rng c _
    | some v =>
      rcases kn1_rng 256 0 hx with q | ⟨t, ht, q⟩
      · exact Or.inr (Or.inl q)
      · exact Or.inr (Or.inr ⟨t, by omega, q⟩)
theorem pk_num {fs : List (Nat → Nat)} {H M : Nat} {J0 : Nat → Int64} (hr : fRng H M fs) (hM : M ≤ 20) (hH : H ≤ 8) (hl : fs.length ≤ 1000) {i h : Nat} (hi : i < fs.length) (hh : h < H) : (JR H J0 fs i >>> ((nI 5 * nI h).toInt64 &&& 63)).toInt32 &&& nI 31 = nI (nmF fs i h) := by
  rw [JR_at fs i hi hl]
  have e : pkR (rN (nmF fs i)) H = pkR (rN (fun j => if j < H then nmF fs i j else 0)) H := pkR_congr (fun j hj => by unfold rN; show nI (nmF fs i j) = nI (if j < H then nmF fs i j else 0); rw [if_pos hj])
  rw [e, pkR_num (fun j => by
    by_cases q : j < H
    · rw [if_pos q]; have := (nmF_rng hr i j hi q).2; exact Or.inl (by omega)
    · rw [if_neg q]; exact Or.inl (by decide)) hH hh, if_pos hh]
/-- the row that looking keeps -/
def scr (kd : mK) (P : mP) (o n : Nat) : Prop := P (o + 56) 3 = none ∨ ∃ z, P (o + 56) 3 = some z ∧ kd z = some (1, 10240) ∧ (z < o ∨ o + 68 < z) ∧ z < n
def bkF (n o s : Nat) (kd kd' : mK) (I I' : mI) (J J' : mJ) (P P' : mP) : Prop := (∀ a, a < n → kd' a = kd a) ∧ (∀ a, a < n → (a < o + 48 ∨ o + 57 < a) → a ≠ s + 8 → P (o + 56) 3 ≠ some a → I' a = I a) ∧ (∀ a, a < n → (a < o + 48 ∨ o + 57 < a) → J' a = J a) ∧ (∀ a, a < n → a ≠ o + 48 → a ≠ o + 56 → P' a = P a) ∧ (∀ k, k ≠ 0 → k ≠ 1 → P' (o + 48) k = P (o + 48) k) ∧ (∀ k, k ≠ 3 → P' (o + 56) k = P (o + 56) k)
def bkP (n : Nat) (kd : mK) (I : mI) (J : mJ) (P : mP) (o s : Nat) (v : Int32) : am_Post := fun y n' kd' I' J' P' => y = .inl (some (.int v)) ∧ (n ≤ n' ∧ n' ≤ n + 1) ∧ bkF n o s kd kd' I I' J J' P P' ∧ scr kd' P' o n' ∧ (P' (o + 56) 3 = P (o + 56) 3 ∨ ∃ z, n ≤ z ∧ P' (o + 56) 3 = some z)
theorem bkF.q {n o s : Nat} {kd : mK} {I I' : mI} {J J' : mJ} {P P' : mP} (h : qFr (o + 48) s I I' J J' P P') : bkF n o s kd kd I I' J J' P P' := ⟨fun _ _ => rfl, fun a _ h1 h2 _ => h.1 a (by omega) h2, fun a _ h1 => h.2.1 a (by omega), fun a _ h1 _ => h.2.2.1 a h1, h.2.2.2, fun k _ => by rw [h.2.2.1 (o + 56) (by omega)]⟩
theorem bkP.q {n o s : Nat} {kd : mK} {I I' : mI} {J J' : mJ} {P P' : mP} {v : Int32} (hs : scr kd P o n) (h : qFr (o + 48) s I I' J J' P P') : bkP n kd I J P o s v (.inl (some (.int v))) n kd I' J' P' := by
  refine ⟨rfl, ⟨Nat.le_refl n, by omega⟩, bkF.q h, ?_, Or.inl (by rw [h.2.2.1 (o + 56) (by omega)])⟩
  unfold scr
  rw [h.2.2.1 (o + 56) (by omega)]
  exact hs
theorem kX.bk {n o b s f l : Nat} {kd kd' : mK} {P P' : mP} (hn : o + 69 ≤ n) (hk : ∀ a, a < n → kd' a = kd a) (h1 : ∀ a, a < n → a ≠ o + 48 → a ≠ o + 56 → P' a = P a) (h2 : ∀ k, k ≠ 0 → k ≠ 1 → P' (o + 48) k = P (o + 48) k) (h3 : ∀ k, k ≠ 3 → P' (o + 56) k = P (o + 56) k) (h : kX kd P o b s f l) : kX kd' P' o b s f l := by
  simp (disch := omega) only [kX, kS, kL, kQ, kA, kG, kW, kRd, kD, kPg, hk, h1, h2, h3] at h ⊢
  exact h
def flP (n : Nat) (kd : mK) (I : mI) (J : mJ) (P : mP) (k : Nat) (v : Int32) : am_Post := fun y n' kd' I' J' P' => y = .inl (some (.int v)) ∧ (n ≤ n' ∧ n' ≤ n + 1) ∧ (∀ a, a < n → kd' a = kd a) ∧ (∀ a, a < n → P k 3 ≠ some a → I' a = I a) ∧ (∀ a, a < n → J' a = J a) ∧ (∀ a, a < n → a ≠ k → P' a = P a) ∧ (∀ j, j ≠ 3 → P' k j = P k j) ∧ (P' k 3 = P k 3 ∨ ∃ z, n ≤ z ∧ z < n' ∧ P' k 3 = some z ∧ kd' z = some (1, 10240))
set_option maxHeartbeats 4000000 in
set_option maxRecDepth 100000 in
theorem c_looksN (k H : Nat) (fs : List (Nat → Nat)) {n : Nat} {kd : mK} {I : mI} {J : mJ} {P : mP} (hG : kG kd P k) (hz : P k 3 = none ∨ ∃ z, P k 3 = some z ∧ kd z = some (1, 10240) ∧ k ≠ z) (hn : n < 1000000) (hkn : k + 1 < n) (e0 : I k 0 = nI H) (e1 : I k 1 = nI fs.length) (hJ : ∀ h i, h < H → i < fs.length → J (k + 1) (h * 40 + i) = jN (alF (nmF fs) fs.length h i)) (hc : fs.length ≤ 40) (hH : H ≤ 8) : Ct yX3_fewestLooks cX3_fewestLooks 4 (some .int) 21 1 10240 [.ref k] n kd I J P (flP n kd I J P k (nI (lookV H fs))) := by
  by_cases h2 : 2 ≤ fs.length
  · rcases hz with hz | ⟨z, hz, hkz, hne⟩
    · refine (c_fl_none k fs.length H (nmF fs) hG hz hn hkn e0 e1 hJ hc hH h2).mono (fun y n1 kd1 I1 J1 P1 hx => ?_)
      obtain ⟨A, h0, rfl, rfl, rfl, rfl, rfl⟩ := hx
      refine ⟨h0, ⟨by omega, by omega⟩, fun a ha => am_up_n _ _ (by omega), fun a ha _ => am_up_n _ _ (by omega), fun a ha => am_up_n _ _ (by omega), fun a _ hk => am_up_n _ _ hk, fun j hj => by rw [am_up_s, am_up_n _ _ hj], Or.inr ⟨n, by omega, by omega, by rw [am_up_s, am_up_s], by rw [am_up_s]⟩⟩
    · refine (c_fl_some k z fs.length H (nmF fs) ⟨hG, hz, hkz, hne, e0, e1, hJ, hc, hH⟩ h2).mono (fun y n1 kd1 I1 J1 P1 hx => ?_)
      obtain ⟨A, h0, rfl, rfl, rfl, rfl, rfl⟩ := hx
      exact ⟨h0, ⟨by omega, by omega⟩, fun _ _ => rfl, fun a ha hq => am_up_n _ _ (fun e => hq (by rw [hz, e])), fun _ _ => rfl, fun _ _ _ => rfl, fun _ _ => rfl, Or.inl rfl⟩
  · refine (c_fl_few k fs.length hG e1 (by omega)).mono (fun y n1 kd1 I1 J1 P1 hx => ?_)
    obtain ⟨h0, rfl, rfl, rfl, rfl, rfl⟩ := hx
    refine ⟨?_, ⟨by omega, by omega⟩, fun _ _ => rfl, fun _ _ _ => rfl, fun _ _ => rfl, fun _ _ _ => rfl, fun _ _ => rfl, Or.inl rfl⟩
    rw [h0]
    unfold lookV
    rw [gV_few _ (by omega)]

theorem dX9_breaksLaw_0 : decode cX9_breaksLaw 0 = .ok (.iload_n 1, 1) := by decide +kernel
theorem dX9_breaksLaw_1 : decode cX9_breaksLaw 1 = .ok (.ifCond .ne 60, 3) := by decide +kernel
theorem dX9_breaksLaw_4 : decode cX9_breaksLaw 4 = .ok (.aload_n 0, 1) := by decide +kernel
theorem dX9_breaksLaw_5 : decode cX9_breaksLaw 5 = .ok (.getfield 31, 3) := by decide +kernel
theorem dX9_breaksLaw_8 : decode cX9_breaksLaw 8 = .ok (.getfield 363, 3) := by decide +kernel
theorem dX9_breaksLaw_11 : decode cX9_breaksLaw 11 = .ok (.aload_n 0, 1) := by decide +kernel
theorem dX9_breaksLaw_12 : decode cX9_breaksLaw 12 = .ok (.getfield 31, 3) := by decide +kernel
theorem dX9_breaksLaw_15 : decode cX9_breaksLaw 15 = .ok (.invokevirtual 318, 3) := by decide +kernel
theorem dX9_breaksLaw_18 : decode cX9_breaksLaw 18 = .ok (.if_icmp .eq 5, 3) := by decide +kernel
theorem dX9_breaksLaw_21 : decode cX9_breaksLaw 21 = .ok (.iconst 0, 1) := by decide +kernel
theorem dX9_breaksLaw_22 : decode cX9_breaksLaw 22 = .ok (.ireturn, 1) := by decide +kernel
theorem dX9_breaksLaw_23 : decode cX9_breaksLaw 23 = .ok (.aload_n 0, 1) := by decide +kernel
theorem dX9_breaksLaw_24 : decode cX9_breaksLaw 24 = .ok (.getfield 64, 3) := by decide +kernel
theorem dX9_breaksLaw_27 : decode cX9_breaksLaw 27 = .ok (.aload_n 0, 1) := by decide +kernel
theorem dX9_breaksLaw_28 : decode cX9_breaksLaw 28 = .ok (.getfield 31, 3) := by decide +kernel
theorem dX9_breaksLaw_31 : decode cX9_breaksLaw 31 = .ok (.aload_n 0, 1) := by decide +kernel
theorem dX9_breaksLaw_32 : decode cX9_breaksLaw 32 = .ok (.getfield 41, 3) := by decide +kernel
theorem dX9_breaksLaw_35 : decode cX9_breaksLaw 35 = .ok (.invokevirtual 277, 3) := by decide +kernel
theorem dX9_breaksLaw_38 : decode cX9_breaksLaw 38 = .ok (.istore_n 2, 1) := by decide +kernel
theorem dX9_breaksLaw_39 : decode cX9_breaksLaw 39 = .ok (.iload_n 2, 1) := by decide +kernel
theorem dX9_breaksLaw_40 : decode cX9_breaksLaw 40 = .ok (.bipush (-2), 2) := by decide +kernel
theorem dX9_breaksLaw_42 : decode cX9_breaksLaw 42 = .ok (.if_icmp .ne 8, 3) := by decide +kernel
theorem dX9_breaksLaw_45 : decode cX9_breaksLaw 45 = .ok (.bipush (-2), 2) := by decide +kernel
theorem dX9_breaksLaw_47 : decode cX9_breaksLaw 47 = .ok (.goto 13, 3) := by decide +kernel
theorem dX9_breaksLaw_50 : decode cX9_breaksLaw 50 = .ok (.iload_n 2, 1) := by decide +kernel
theorem dX9_breaksLaw_51 : decode cX9_breaksLaw 51 = .ok (.iconst 1, 1) := by decide +kernel
theorem dX9_breaksLaw_52 : decode cX9_breaksLaw 52 = .ok (.if_icmp .le 7, 3) := by decide +kernel
theorem dX9_breaksLaw_55 : decode cX9_breaksLaw 55 = .ok (.iconst 1, 1) := by decide +kernel
theorem dX9_breaksLaw_56 : decode cX9_breaksLaw 56 = .ok (.goto 4, 3) := by decide +kernel
theorem dX9_breaksLaw_59 : decode cX9_breaksLaw 59 = .ok (.iconst 0, 1) := by decide +kernel
theorem dX9_breaksLaw_60 : decode cX9_breaksLaw 60 = .ok (.ireturn, 1) := by decide +kernel
theorem dX9_breaksLaw_61 : decode cX9_breaksLaw 61 = .ok (.iload_n 1, 1) := by decide +kernel
theorem dX9_breaksLaw_62 : decode cX9_breaksLaw 62 = .ok (.iconst 1, 1) := by decide +kernel
theorem dX9_breaksLaw_63 : decode cX9_breaksLaw 63 = .ok (.if_icmp .ne 99, 3) := by decide +kernel
theorem dX9_breaksLaw_66 : decode cX9_breaksLaw 66 = .ok (.aload_n 0, 1) := by decide +kernel
theorem dX9_breaksLaw_67 : decode cX9_breaksLaw 67 = .ok (.getfield 64, 3) := by decide +kernel
theorem dX9_breaksLaw_70 : decode cX9_breaksLaw 70 = .ok (.getfield 198, 3) := by decide +kernel
theorem dX9_breaksLaw_73 : decode cX9_breaksLaw 73 = .ok (.aload_n 0, 1) := by decide +kernel
theorem dX9_breaksLaw_74 : decode cX9_breaksLaw 74 = .ok (.getfield 31, 3) := by decide +kernel
theorem dX9_breaksLaw_77 : decode cX9_breaksLaw 77 = .ok (.aload_n 0, 1) := by decide +kernel
theorem dX9_breaksLaw_78 : decode cX9_breaksLaw 78 = .ok (.getfield 41, 3) := by decide +kernel
theorem dX9_breaksLaw_81 : decode cX9_breaksLaw 81 = .ok (.aload_n 0, 1) := by decide +kernel
theorem dX9_breaksLaw_82 : decode cX9_breaksLaw 82 = .ok (.getfield 31, 3) := by decide +kernel
theorem dX9_breaksLaw_85 : decode cX9_breaksLaw 85 = .ok (.getfield 363, 3) := by decide +kernel
theorem dX9_breaksLaw_88 : decode cX9_breaksLaw 88 = .ok (.iconst 1, 1) := by decide +kernel
theorem dX9_breaksLaw_89 : decode cX9_breaksLaw 89 = .ok (.invokevirtual 304, 3) := by decide +kernel
theorem dX9_breaksLaw_92 : decode cX9_breaksLaw 92 = .ok (.aload_n 0, 1) := by decide +kernel
theorem dX9_breaksLaw_93 : decode cX9_breaksLaw 93 = .ok (.getfield 64, 3) := by decide +kernel
theorem dX9_breaksLaw_96 : decode cX9_breaksLaw 96 = .ok (.getfield 198, 3) := by decide +kernel
theorem dX9_breaksLaw_99 : decode cX9_breaksLaw 99 = .ok (.invokevirtual 308, 3) := by decide +kernel
theorem dX9_breaksLaw_102 : decode cX9_breaksLaw 102 = .ok (.istore_n 2, 1) := by decide +kernel
theorem dX9_breaksLaw_103 : decode cX9_breaksLaw 103 = .ok (.iload_n 2, 1) := by decide +kernel
theorem dX9_breaksLaw_104 : decode cX9_breaksLaw 104 = .ok (.bipush (-2), 2) := by decide +kernel
theorem dX9_breaksLaw_106 : decode cX9_breaksLaw 106 = .ok (.if_icmp .eq 9, 3) := by decide +kernel
theorem dX9_breaksLaw_109 : decode cX9_breaksLaw 109 = .ok (.iload_n 2, 1) := by decide +kernel
theorem dX9_breaksLaw_110 : decode cX9_breaksLaw 110 = .ok (.bipush 40, 2) := by decide +kernel
theorem dX9_breaksLaw_112 : decode cX9_breaksLaw 112 = .ok (.if_icmp .le 6, 3) := by decide +kernel
theorem dX9_breaksLaw_115 : decode cX9_breaksLaw 115 = .ok (.bipush (-2), 2) := by decide +kernel
theorem dX9_breaksLaw_117 : decode cX9_breaksLaw 117 = .ok (.ireturn, 1) := by decide +kernel
theorem dX9_breaksLaw_118 : decode cX9_breaksLaw 118 = .ok (.aload_n 0, 1) := by decide +kernel
theorem dX9_breaksLaw_119 : decode cX9_breaksLaw 119 = .ok (.getfield 71, 3) := by decide +kernel
theorem dX9_breaksLaw_122 : decode cX9_breaksLaw 122 = .ok (.aload_n 0, 1) := by decide +kernel
theorem dX9_breaksLaw_123 : decode cX9_breaksLaw 123 = .ok (.getfield 64, 3) := by decide +kernel
theorem dX9_breaksLaw_126 : decode cX9_breaksLaw 126 = .ok (.getfield 198, 3) := by decide +kernel
theorem dX9_breaksLaw_129 : decode cX9_breaksLaw 129 = .ok (.aload_n 0, 1) := by decide +kernel
theorem dX9_breaksLaw_130 : decode cX9_breaksLaw 130 = .ok (.getfield 31, 3) := by decide +kernel
theorem dX9_breaksLaw_133 : decode cX9_breaksLaw 133 = .ok (.getfield 124, 3) := by decide +kernel
theorem dX9_breaksLaw_136 : decode cX9_breaksLaw 136 = .ok (.invokevirtual 372, 3) := by decide +kernel
theorem dX9_breaksLaw_139 : decode cX9_breaksLaw 139 = .ok (.aload_n 0, 1) := by decide +kernel
theorem dX9_breaksLaw_140 : decode cX9_breaksLaw 140 = .ok (.getfield 71, 3) := by decide +kernel
theorem dX9_breaksLaw_143 : decode cX9_breaksLaw 143 = .ok (.invokevirtual 222, 3) := by decide +kernel
theorem dX9_breaksLaw_146 : decode cX9_breaksLaw 146 = .ok (.aload_n 0, 1) := by decide +kernel
theorem dX9_breaksLaw_147 : decode cX9_breaksLaw 147 = .ok (.getfield 31, 3) := by decide +kernel
theorem dX9_breaksLaw_150 : decode cX9_breaksLaw 150 = .ok (.getfield 124, 3) := by decide +kernel
theorem dX9_breaksLaw_153 : decode cX9_breaksLaw 153 = .ok (.if_icmp .ge 7, 3) := by decide +kernel
theorem dX9_breaksLaw_156 : decode cX9_breaksLaw 156 = .ok (.iconst 0, 1) := by decide +kernel
theorem dX9_breaksLaw_157 : decode cX9_breaksLaw 157 = .ok (.goto 4, 3) := by decide +kernel
theorem dX9_breaksLaw_160 : decode cX9_breaksLaw 160 = .ok (.iconst 1, 1) := by decide +kernel
theorem dX9_breaksLaw_161 : decode cX9_breaksLaw 161 = .ok (.ireturn, 1) := by decide +kernel
theorem dX9_breaksLaw_162 : decode cX9_breaksLaw 162 = .ok (.aload_n 0, 1) := by decide +kernel
theorem dX9_breaksLaw_163 : decode cX9_breaksLaw 163 = .ok (.getfield 64, 3) := by decide +kernel
theorem dX9_breaksLaw_166 : decode cX9_breaksLaw 166 = .ok (.aload_n 0, 1) := by decide +kernel
theorem dX9_breaksLaw_167 : decode cX9_breaksLaw 167 = .ok (.getfield 31, 3) := by decide +kernel
theorem dX9_breaksLaw_170 : decode cX9_breaksLaw 170 = .ok (.aload_n 0, 1) := by decide +kernel
theorem dX9_breaksLaw_171 : decode cX9_breaksLaw 171 = .ok (.getfield 41, 3) := by decide +kernel
theorem dX9_breaksLaw_174 : decode cX9_breaksLaw 174 = .ok (.invokevirtual 211, 3) := by decide +kernel
theorem dX9_breaksLaw_177 : decode cX9_breaksLaw 177 = .ok (.istore_n 2, 1) := by decide +kernel
theorem dX9_breaksLaw_178 : decode cX9_breaksLaw 178 = .ok (.iload_n 2, 1) := by decide +kernel
theorem dX9_breaksLaw_179 : decode cX9_breaksLaw 179 = .ok (.bipush (-2), 2) := by decide +kernel
theorem dX9_breaksLaw_181 : decode cX9_breaksLaw 181 = .ok (.if_icmp .ne 8, 3) := by decide +kernel
theorem dX9_breaksLaw_184 : decode cX9_breaksLaw 184 = .ok (.bipush (-2), 2) := by decide +kernel
theorem dX9_breaksLaw_186 : decode cX9_breaksLaw 186 = .ok (.goto 21, 3) := by decide +kernel
theorem dX9_breaksLaw_189 : decode cX9_breaksLaw 189 = .ok (.iload_n 2, 1) := by decide +kernel
theorem dX9_breaksLaw_190 : decode cX9_breaksLaw 190 = .ok (.iconst (-1), 1) := by decide +kernel
theorem dX9_breaksLaw_191 : decode cX9_breaksLaw 191 = .ok (.if_icmp .eq 15, 3) := by decide +kernel
theorem dX9_breaksLaw_194 : decode cX9_breaksLaw 194 = .ok (.iload_n 2, 1) := by decide +kernel
theorem dX9_breaksLaw_195 : decode cX9_breaksLaw 195 = .ok (.invokestatic 366, 3) := by decide +kernel
theorem dX9_breaksLaw_198 : decode cX9_breaksLaw 198 = .ok (.iconst 2, 1) := by decide +kernel
theorem dX9_breaksLaw_199 : decode cX9_breaksLaw 199 = .ok (.if_icmp .le 7, 3) := by decide +kernel
theorem dX9_breaksLaw_202 : decode cX9_breaksLaw 202 = .ok (.iconst 1, 1) := by decide +kernel
theorem dX9_breaksLaw_203 : decode cX9_breaksLaw 203 = .ok (.goto 4, 3) := by decide +kernel
theorem dX9_breaksLaw_206 : decode cX9_breaksLaw 206 = .ok (.iconst 0, 1) := by decide +kernel
theorem dX9_breaksLaw_207 : decode cX9_breaksLaw 207 = .ok (.ireturn, 1) := by decide +kernel

set_option maxHeartbeats 4000000 in
set_option maxRecDepth 100000 in
theorem c_brk0 (o b s f l M H : Nat) (un : Bool) (cs : Nat → List Nat) {n : Nat} {kd : mK} {I : mI} {J : mJ} {P : mP} (hX : kX kd P o b s f l) (hc : csOK cs H) (hH8 : H ≤ 8) (hM20 : M ≤ 20) (hst : stM cs H I s) (hmo : I s 1 = nI M) (hu : decide (I s 2 = 0) = (!un)) (hl : I l 2 = nI 0 ∧ I l 7 = nI 0 ∧ ∀ j, j < 8 → I (l + 1) j = nI 0 ∧ I (l + 2) j = nI 0) (hn : o + 69 ≤ n) (hn9 : n < 999999) (hsc : scr kd P o n) : Ct yX9_breaksLaw cX9_breaksLaw 3 (some .int) 22 1 10240 [.ref o, .int (nI 0)] n kd I J P (bkP n kd I J P o s (lawB 0 H M un cs)) := by
  have hX0 := hX
  obtain ⟨⟨c0, c1, c2⟩, ⟨s3, s13⟩, ⟨l23, l29, l35⟩, ⟨q41, a47, g56, w58, r61, d66, p67⟩, ⟨e0, e3, e8, e10, e12, e13, e14, e15, e16, e17⟩, ⟨e4, e5, e6, e7⟩, hbs, hfl, ho⟩ := hX
  have kSs : kS kd P s := by rcases hbs with h | h <;> rw [h.2]; exact s13; exact s3
  have kLl : kL kd P l := by rcases hfl with h | h <;> rw [h.2]; exact l29; exact l23
  have hcl := cl_seed (l := l) (Lt := so0) hc hH8 hst hmo hu hl.2.1
  have hri := st_riB hst
  have hz : ∀ k, k < H → I (l + 1) k = nI 0 ∧ I (l + 2) k = nI 0 := fun k hk => hl.2.2 k (by omega)
  have hr : I s 3 &&& (I l 2 ^^^ (-1)) = nI (riB cs H) := by rw [hl.1, and_m1, hri]
  have hp := riB_lt (cs := cs) hH8
  have hall : (nI 1 <<< (I s 0 &&& 31)) - nI 1 = nI (2 ^ H - 1) := by rw [hst.1]; exact (by decide +kernel : ∀ H, H ≤ 8 → (nI 1 <<< (nI H &&& 31)) - nI 1 = nI (2 ^ H - 1)) H hH8
  have h2H : 2 ^ H - 1 < 256 := by have := pw8 hH8; have := Nat.two_pow_pos H; omega
  have hsk := rsT_eq (un := un) (Lt := so0) (E := 2) hH8 hM20 hr hz
  refine ct_of 1 (by decide +kernel) (Nat.le_of_ble_eq_true rfl) rfl ?_
  by_cases hcn : cnR cs H = H
  · have hlw : lawB 0 H M un cs = if (rsT un cs M H 2).2.2 then -2 else if 1 < (rsT un cs M H 2).2.1.length then nI 1 else nI 0 := by unfold lawB; rw [if_pos rfl, if_pos hcn]
    have hlen := skTop_len (by decide) hsk
    rw [hlw]
    refine r_iload_n dX9_breaksLaw_0 rfl ?_
    refine r_if_ne (tgt := 61) dX9_breaksLaw_1 (by decide) (fun hz => absurd (show _ from rfl) hz) (fun _ => ?_)
    refine r_aload_n dX9_breaksLaw_4 rfl ?_
    refine r_getR dX9_breaksLaw_5 fl_X9_31 rfl c0 e5 ?_
    refine r_getI dX9_breaksLaw_8 fl_X9_363 rfl kSs.1 ?_
    rw [hri]
    refine r_aload_n dX9_breaksLaw_11 rfl ?_
    refine r_getR dX9_breaksLaw_12 fl_X9_31 rfl c0 e5 ?_
    refine r_virtE (c_X7_allHouses s kSs) lk_X9_318 mc_X7_allHouses dX9_breaksLaw_15 kSs.1 (by decide) rfl rfl (Nat.le_of_ble_eq_true rfl) ?_
    rw [hall]
    refine r_icmp_eq (tgt := 23) dX9_breaksLaw_18 (by decide) (fun _ => ?_) (fun hz => absurd (show _ from (by rw [cn_riB.mpr hcn])) hz)
    refine r_aload_n dX9_breaksLaw_23 rfl ?_
    refine r_getR dX9_breaksLaw_24 fl_X9_64 rfl c0 e12 ?_
    refine r_aload_n dX9_breaksLaw_27 rfl ?_
    refine r_getR dX9_breaksLaw_28 fl_X9_31 rfl c0 e5 ?_
    refine r_aload_n dX9_breaksLaw_31 rfl ?_
    refine r_getR dX9_breaksLaw_32 fl_X9_41 rfl c0 e7 ?_
    refine r_virt (kc2 := 1) (ks2 := 10240) (c_X0_upToTwo (o + 47) (o + 48) s l H M 0 (fun h => lkm 0 (cs h)) cs un so0 (I (l + 1)) (I (l + 2)) (rsT un cs M H 2) a47.1 a47.2.2.2.2.1 (by omega) kSs kLl a47.2.1 (by omega) (by omega) (by omega) hH8 hcl hM20 hsk) lk_X9_277 mc_X0_upToTwo dX9_breaksLaw_35 a47.1 (by decide) rfl rfl (Nat.le_of_ble_eq_true rfl) (by decide) (by decide) (fun _ _ _ _ _ _ h => nomatch h.1) ?_
    rintro v n1 kd1 I1 J1 P1 ⟨h0, rfl, rfl, hq, -, -, -, -, -⟩
    cases h0
    simp only [Option.toList, List.cons_append, List.nil_append]
    by_cases hsp : (rsT un cs M H 2).2.2 = true
    · rw [show skv (rsT un cs M H 2).2.2 (rsT un cs M H 2).2.1 = -2 from by unfold skv; rw [if_pos hsp], if_pos hsp]
      refine r_istore_n dX9_breaksLaw_38 (by decide) ?_
      refine r_iload_n dX9_breaksLaw_39 rfl ?_
      refine r_bipush (v := -2) dX9_breaksLaw_40 (by decide) ?_
      refine r_icmp_ne (tgt := 50) dX9_breaksLaw_42 (by decide) (fun hz => absurd (show _ from rfl) hz) (fun _ => ?_)
      refine r_bipush (v := -2) dX9_breaksLaw_45 (by decide) ?_
      refine r_goto (tgt := 60) dX9_breaksLaw_47 (by decide) ?_
      refine r_iret rfl dX9_breaksLaw_60 ?_
      exact bkP.q hsc hq
    · rw [show skv (rsT un cs M H 2).2.2 (rsT un cs M H 2).2.1 = nI (rsT un cs M H 2).2.1.length from by unfold skv; rw [if_neg hsp], if_neg hsp]
      by_cases h1 : 1 < (rsT un cs M H 2).2.1.length
      · rw [if_pos h1]
        refine r_istore_n dX9_breaksLaw_38 (by decide) ?_
        refine r_iload_n dX9_breaksLaw_39 rfl ?_
        refine r_bipush (v := -2) dX9_breaksLaw_40 (by decide) ?_
        refine r_icmp_ne (tgt := 50) dX9_breaksLaw_42 (by decide) (fun _ => ?_) (fun hz => absurd hz (show ¬ _ from (nI_m2 (by omega))))
        refine r_iload_n dX9_breaksLaw_50 rfl ?_
        refine r_iconst (v := nI 1) dX9_breaksLaw_51 (by decide) ?_
        refine r_icmp_le (tgt := 59) dX9_breaksLaw_52 (by decide) (fun hz => absurd hz (show ¬ _ from (by rw [nI_leI (by omega) (by omega)]; omega))) (fun _ => ?_)
        refine r_iconst (v := nI 1) dX9_breaksLaw_55 (by decide) ?_
        refine r_goto (tgt := 60) dX9_breaksLaw_56 (by decide) ?_
        refine r_iret rfl dX9_breaksLaw_60 ?_
        exact bkP.q hsc hq
      · rw [if_neg h1]
        refine r_istore_n dX9_breaksLaw_38 (by decide) ?_
        refine r_iload_n dX9_breaksLaw_39 rfl ?_
        refine r_bipush (v := -2) dX9_breaksLaw_40 (by decide) ?_
        refine r_icmp_ne (tgt := 50) dX9_breaksLaw_42 (by decide) (fun _ => ?_) (fun hz => absurd hz (show ¬ _ from (nI_m2 (by omega))))
        refine r_iload_n dX9_breaksLaw_50 rfl ?_
        refine r_iconst (v := nI 1) dX9_breaksLaw_51 (by decide) ?_
        refine r_icmp_le (tgt := 59) dX9_breaksLaw_52 (by decide) (fun _ => ?_) (fun hz => absurd (show _ from (by rw [nI_leI (by omega) (by omega)]; omega)) hz)
        refine r_iconst (v := nI 0) dX9_breaksLaw_59 (by decide) ?_
        refine r_iret rfl dX9_breaksLaw_60 ?_
        exact bkP.q hsc hq
  · have hlw : lawB 0 H M un cs = nI 0 := by unfold lawB; rw [if_pos rfl, if_neg hcn]
    rw [hlw]
    refine r_iload_n dX9_breaksLaw_0 rfl ?_
    refine r_if_ne (tgt := 61) dX9_breaksLaw_1 (by decide) (fun hz => absurd (show _ from rfl) hz) (fun _ => ?_)
    refine r_aload_n dX9_breaksLaw_4 rfl ?_
    refine r_getR dX9_breaksLaw_5 fl_X9_31 rfl c0 e5 ?_
    refine r_getI dX9_breaksLaw_8 fl_X9_363 rfl kSs.1 ?_
    rw [hri]
    refine r_aload_n dX9_breaksLaw_11 rfl ?_
    refine r_getR dX9_breaksLaw_12 fl_X9_31 rfl c0 e5 ?_
    refine r_virtE (c_X7_allHouses s kSs) lk_X9_318 mc_X7_allHouses dX9_breaksLaw_15 kSs.1 (by decide) rfl rfl (Nat.le_of_ble_eq_true rfl) ?_
    rw [hall]
    refine r_icmp_eq (tgt := 23) dX9_breaksLaw_18 (by decide) (fun hz => absurd hz (show ¬ _ from (fun q => hcn (cn_riB.mp ((nI_eq (by omega) (by omega)).mp q))))) (fun _ => ?_)
    refine r_iconst (v := nI 0) dX9_breaksLaw_21 (by decide) ?_
    refine r_iret rfl dX9_breaksLaw_22 ?_
    exact bkP.q hsc qFr.rf

set_option maxHeartbeats 4000000 in
set_option maxRecDepth 100000 in
theorem c_brk2 (o b s f l M H : Nat) (un : Bool) (cs : Nat → List Nat) {n : Nat} {kd : mK} {I : mI} {J : mJ} {P : mP} (hX : kX kd P o b s f l) (hc : csOK cs H) (hH8 : H ≤ 8) (hM20 : M ≤ 20) (hst : stM cs H I s) (hmo : I s 1 = nI M) (hu : decide (I s 2 = 0) = (!un)) (hl : I l 2 = nI 0 ∧ I l 7 = nI 0 ∧ ∀ j, j < 8 → I (l + 1) j = nI 0 ∧ I (l + 2) j = nI 0) (hn : o + 69 ≤ n) (hn9 : n < 999999) (hsc : scr kd P o n) : Ct yX9_breaksLaw cX9_breaksLaw 3 (some .int) 22 1 10240 [.ref o, .int (nI 2)] n kd I J P (bkP n kd I J P o s (lawB 2 H M un cs)) := by
  have hX0 := hX
  obtain ⟨⟨c0, c1, c2⟩, ⟨s3, s13⟩, ⟨l23, l29, l35⟩, ⟨q41, a47, g56, w58, r61, d66, p67⟩, ⟨e0, e3, e8, e10, e12, e13, e14, e15, e16, e17⟩, ⟨e4, e5, e6, e7⟩, hbs, hfl, ho⟩ := hX
  have kSs : kS kd P s := by rcases hbs with h | h <;> rw [h.2]; exact s13; exact s3
  have kLl : kL kd P l := by rcases hfl with h | h <;> rw [h.2]; exact l29; exact l23
  have hcl := cl_seed (l := l) (Lt := so0) hc hH8 hst hmo hu hl.2.1
  have hri := st_riB hst
  have hz : ∀ k, k < H → I (l + 1) k = nI 0 ∧ I (l + 2) k = nI 0 := fun k hk => hl.2.2 k (by omega)
  have hr : I s 3 &&& (I l 2 ^^^ (-1)) = nI (riB cs H) := by rw [hl.1, and_m1, hri]
  have hp := riB_lt (cs := cs) hH8
  have hkn : kn2 (RK un so0 0 H M (fun h => lkm 0 (cs h)) (tvN (I (l + 1)) (I (l + 2)) (nI M) H cs)) (riB cs H) (riB cs H + 1) (pc8 (riB cs H) + 1) 0 = (knV un cs M H) := by
    rw [RK_q hz, kn_same _ hp]
    rfl
  have hk := c_X0_smallestKnot (n := n) (J := J) (o + 47) (o + 48) s l H M 0 (riB cs H) (fun h => lkm 0 (cs h)) cs un so0 (I (l + 1)) (I (l + 2)) hH8 hM20 hp ⟨⟨a47.1, a47.2.2.2.2.1, by omega⟩, kSs, kLl, a47.2.1, by omega, by omega, by omega, hcl⟩ hr
  rw [hkn] at hk
  have hrg : (knV un cs M H) = -1 ∨ (knV un cs M H) = -2 ∨ ∃ t, t < 256 ∧ (knV un cs M H) = nI t := kn2_rng 9 0
  have hlw : lawB 2 H M un cs = if (knV un cs M H) = -2 then -2 else if (knV un cs M H) = -1 then nI 0 else if nI 2 < bcF (knV un cs M H) then nI 1 else nI 0 := by unfold lawB; rw [if_neg (by decide), if_neg (by decide)]
  rw [hlw]
  refine ct_of 1 (by decide +kernel) (Nat.le_of_ble_eq_true rfl) rfl ?_
  refine r_iload_n dX9_breaksLaw_0 rfl ?_
  refine r_if_ne (tgt := 61) dX9_breaksLaw_1 (by decide) (fun _ => ?_) (fun hz => absurd hz (show ¬ _ from (by decide)))
  refine r_iload_n dX9_breaksLaw_61 rfl ?_
  refine r_iconst (v := nI 1) dX9_breaksLaw_62 (by decide) ?_
  refine r_icmp_ne (tgt := 162) dX9_breaksLaw_63 (by decide) (fun _ => ?_) (fun hz => absurd hz (show ¬ _ from (by decide)))
  refine r_aload_n dX9_breaksLaw_162 rfl ?_
  refine r_getR dX9_breaksLaw_163 fl_X9_64 rfl c0 e12 ?_
  refine r_aload_n dX9_breaksLaw_166 rfl ?_
  refine r_getR dX9_breaksLaw_167 fl_X9_31 rfl c0 e5 ?_
  refine r_aload_n dX9_breaksLaw_170 rfl ?_
  refine r_getR dX9_breaksLaw_171 fl_X9_41 rfl c0 e7 ?_
  refine r_virt (kc2 := 1) (ks2 := 10240) (hk) lk_X9_211 mc_X0_smallestKnot dX9_breaksLaw_174 a47.1 (by decide) rfl rfl (Nat.le_of_ble_eq_true rfl) (by decide) (by decide) (fun _ _ _ _ _ _ h => nomatch h.1) ?_
  rintro v n1 kd1 I1 J1 P1 ⟨h0, rfl, rfl, hq⟩
  cases h0
  simp only [Option.toList, List.cons_append, List.nil_append]
  rcases hrg with e | e | ⟨t, ht, e⟩
  · rw [e, if_neg (by decide), if_pos rfl]
    refine r_istore_n dX9_breaksLaw_177 (by decide) ?_
    refine r_iload_n dX9_breaksLaw_178 rfl ?_
    refine r_bipush (v := -2) dX9_breaksLaw_179 (by decide) ?_
    refine r_icmp_ne (tgt := 189) dX9_breaksLaw_181 (by decide) (fun _ => ?_) (fun hz => absurd hz (show ¬ _ from (by decide)))
    refine r_iload_n dX9_breaksLaw_189 rfl ?_
    refine r_iconst (v := (-1)) dX9_breaksLaw_190 (by decide) ?_
    refine r_icmp_eq (tgt := 206) dX9_breaksLaw_191 (by decide) (fun _ => ?_) (fun hz => absurd (show _ from rfl) hz)
    refine r_iconst (v := nI 0) dX9_breaksLaw_206 (by decide) ?_
    refine r_iret rfl dX9_breaksLaw_207 ?_
    exact bkP.q hsc hq
  · rw [e, if_pos rfl]
    refine r_istore_n dX9_breaksLaw_177 (by decide) ?_
    refine r_iload_n dX9_breaksLaw_178 rfl ?_
    refine r_bipush (v := -2) dX9_breaksLaw_179 (by decide) ?_
    refine r_icmp_ne (tgt := 189) dX9_breaksLaw_181 (by decide) (fun hz => absurd (show _ from rfl) hz) (fun _ => ?_)
    refine r_bipush (v := -2) dX9_breaksLaw_184 (by decide) ?_
    refine r_goto (tgt := 207) dX9_breaksLaw_186 (by decide) ?_
    refine r_iret rfl dX9_breaksLaw_207 ?_
    exact bkP.q hsc hq
  · rw [e, if_neg (nI_m2 (by omega)), if_neg (nI_m1 (by omega)), bc_pc t ht]
    have hb8 := pc8_le t ht
    by_cases h2 : 2 < pc8 t
    · rw [if_pos ((nI_ltI (by omega) (by omega)).mpr h2)]
      refine r_istore_n dX9_breaksLaw_177 (by decide) ?_
      refine r_iload_n dX9_breaksLaw_178 rfl ?_
      refine r_bipush (v := -2) dX9_breaksLaw_179 (by decide) ?_
      refine r_icmp_ne (tgt := 189) dX9_breaksLaw_181 (by decide) (fun _ => ?_) (fun hz => absurd hz (show ¬ _ from (nI_m2 (by omega))))
      refine r_iload_n dX9_breaksLaw_189 rfl ?_
      refine r_iconst (v := (-1)) dX9_breaksLaw_190 (by decide) ?_
      refine r_icmp_eq (tgt := 206) dX9_breaksLaw_191 (by decide) (fun hz => absurd hz (show ¬ _ from (nI_m1 (by omega)))) (fun _ => ?_)
      refine r_iload_n dX9_breaksLaw_194 rfl ?_
      refine r_statE (c_J6_bitCount_0f7a4 (nI t)) lk_X9_366 mc_J6_bitCount_0f7a4 dX9_breaksLaw_195 (by decide) rfl rfl (Nat.le_of_ble_eq_true rfl) ?_
      rw [bc_pc t ht]
      refine r_iconst (v := nI 2) dX9_breaksLaw_198 (by decide) ?_
      refine r_icmp_le (tgt := 206) dX9_breaksLaw_199 (by decide) (fun hz => absurd hz (show ¬ _ from (by rw [nI_leI (by omega) (by omega)]; omega))) (fun _ => ?_)
      refine r_iconst (v := nI 1) dX9_breaksLaw_202 (by decide) ?_
      refine r_goto (tgt := 207) dX9_breaksLaw_203 (by decide) ?_
      refine r_iret rfl dX9_breaksLaw_207 ?_
      exact bkP.q hsc hq
    · rw [if_neg (fun q => h2 ((nI_ltI (by omega) (by omega)).mp q))]
      refine r_istore_n dX9_breaksLaw_177 (by decide) ?_
      refine r_iload_n dX9_breaksLaw_178 rfl ?_
      refine r_bipush (v := -2) dX9_breaksLaw_179 (by decide) ?_
      refine r_icmp_ne (tgt := 189) dX9_breaksLaw_181 (by decide) (fun _ => ?_) (fun hz => absurd hz (show ¬ _ from (nI_m2 (by omega))))
      refine r_iload_n dX9_breaksLaw_189 rfl ?_
      refine r_iconst (v := (-1)) dX9_breaksLaw_190 (by decide) ?_
      refine r_icmp_eq (tgt := 206) dX9_breaksLaw_191 (by decide) (fun hz => absurd hz (show ¬ _ from (nI_m1 (by omega)))) (fun _ => ?_)
      refine r_iload_n dX9_breaksLaw_194 rfl ?_
      refine r_statE (c_J6_bitCount_0f7a4 (nI t)) lk_X9_366 mc_J6_bitCount_0f7a4 dX9_breaksLaw_195 (by decide) rfl rfl (Nat.le_of_ble_eq_true rfl) ?_
      rw [bc_pc t ht]
      refine r_iconst (v := nI 2) dX9_breaksLaw_198 (by decide) ?_
      refine r_icmp_le (tgt := 206) dX9_breaksLaw_199 (by decide) (fun _ => ?_) (fun hz => absurd (show _ from (by rw [nI_leI (by omega) (by omega)]; omega)) hz)
      refine r_iconst (v := nI 0) dX9_breaksLaw_206 (by decide) ?_
      refine r_iret rfl dX9_breaksLaw_207 ?_
      exact bkP.q hsc hq

set_option maxHeartbeats 4000000 in
set_option maxRecDepth 100000 in
theorem c_brk1 (o b s f l M H : Nat) (un : Bool) (cs : Nat → List Nat) {n : Nat} {kd : mK} {I : mI} {J : mJ} {P : mP} (hX : kX kd P o b s f l) (hc : csOK cs H) (hH8 : H ≤ 8) (hM20 : M ≤ 20) (hst : stM cs H I s) (hmo : I s 1 = nI M) (hu : decide (I s 2 = 0) = (!un)) (hl : I l 2 = nI 0 ∧ I l 7 = nI 0 ∧ ∀ j, j < 8 → I (l + 1) j = nI 0 ∧ I (l + 2) j = nI 0) (hn : o + 69 ≤ n) (hn9 : n < 999999) (hsc : scr kd P o n) : Ct yX9_breaksLaw cX9_breaksLaw 3 (some .int) 22 1 10240 [.ref o, .int (nI 1)] n kd I J P (bkP n kd I J P o s (lawB 1 H M un cs)) := by
  have hX0 := hX
  obtain ⟨⟨c0, c1, c2⟩, ⟨s3, s13⟩, ⟨l23, l29, l35⟩, ⟨q41, a47, g56, w58, r61, d66, p67⟩, ⟨e0, e3, e8, e10, e12, e13, e14, e15, e16, e17⟩, ⟨e4, e5, e6, e7⟩, hbs, hfl, ho⟩ := hX
  have kSs : kS kd P s := by rcases hbs with h | h <;> rw [h.2]; exact s13; exact s3
  have kLl : kL kd P l := by rcases hfl with h | h <;> rw [h.2]; exact l29; exact l23
  have hcl := cl_seed (l := l) (Lt := so0) hc hH8 hst hmo hu hl.2.1
  have hri := st_riB hst
  have hz : ∀ k, k < H → I (l + 1) k = nI 0 ∧ I (l + 2) k = nI 0 := fun k hk => hl.2.2 k (by omega)
  have hr : I s 3 &&& (I l 2 ^^^ (-1)) = nI (riB cs H) := by rw [hl.1, and_m1, hri]
  have hp := riB_lt (cs := cs) hH8
  have hsk := rsT_eq (un := un) (Lt := so0) (E := 1001) (r := I s 3) hH8 hM20 hri hz
  have hdr := skTop_dif hsk
  have hlw : lawB 1 H M un cs = if fwB (rsT un cs M H 1001) = true then (if lookV H (rsT un cs M H 1001).2.1 < H then nI 0 else nI 1) else -2 := by unfold lawB; rw [if_neg (by decide), if_pos rfl]
  rw [hlw]
  refine ct_of 1 (by decide +kernel) (Nat.le_of_ble_eq_true rfl) rfl ?_
  refine r_iload_n dX9_breaksLaw_0 rfl ?_
  refine r_if_ne (tgt := 61) dX9_breaksLaw_1 (by decide) (fun _ => ?_) (fun hz => absurd hz (show ¬ _ from (by decide)))
  refine r_iload_n dX9_breaksLaw_61 rfl ?_
  refine r_iconst (v := nI 1) dX9_breaksLaw_62 (by decide) ?_
  refine r_icmp_ne (tgt := 162) dX9_breaksLaw_63 (by decide) (fun hz => absurd (show _ from rfl) hz) (fun _ => ?_)
  refine r_aload_n dX9_breaksLaw_66 rfl ?_
  refine r_getR dX9_breaksLaw_67 fl_X9_64 rfl c0 e12 ?_
  refine r_getR dX9_breaksLaw_70 fl_X9_198 rfl a47.1 a47.2.2.2.2.1 ?_
  refine r_aload_n dX9_breaksLaw_73 rfl ?_
  refine r_getR dX9_breaksLaw_74 fl_X9_31 rfl c0 e5 ?_
  refine r_aload_n dX9_breaksLaw_77 rfl ?_
  refine r_getR dX9_breaksLaw_78 fl_X9_41 rfl c0 e7 ?_
  refine r_aload_n dX9_breaksLaw_81 rfl ?_
  refine r_getR dX9_breaksLaw_82 fl_X9_31 rfl c0 e5 ?_
  refine r_getI dX9_breaksLaw_85 fl_X9_363 rfl kSs.1 ?_
  refine r_iconst (v := nI 1) dX9_breaksLaw_88 (by decide) ?_
  refine r_virtV (c_setUpN (o + 48) s l H M 0 (I s 3) (nI 1) (fun h => lkm 0 (cs h)) cs un so0 (I (l + 1)) (I (l + 2)) kSs kLl a47.2.1 (by omega) (by omega) (by omega) hH8 hcl) lk_X9_304 mc_X6_setUp dX9_breaksLaw_89 a47.2.1.1 (by decide) rfl rfl (Nat.le_of_ble_eq_true rfl) ?_
  refine r_aload_n dX9_breaksLaw_92 rfl ?_
  refine r_getR dX9_breaksLaw_93 fl_X9_64 rfl c0 (by unfold suP; rw [am_up_n _ _ (by omega)]; exact e12) ?_
  refine r_getR dX9_breaksLaw_96 fl_X9_198 rfl a47.1 (by unfold suP; rw [am_up_n _ _ (by omega)]; exact a47.2.2.2.2.1) ?_
  refine r_virt (kc2 := 1) (ks2 := 10240) (c_seekAllN (o + 48) s l H M 0 (I s 3) (nI 1) (fun h => lkm 0 (cs h)) cs un so0 (I (l + 1)) (I (l + 2)) (rsT un cs M H 1001) kSs kLl a47.2.1 (by omega) (by omega) (by omega) hH8 hcl hM20 (fun _ _ h => h) hsk) lk_X9_308 mc_X6_seekAll dX9_breaksLaw_99 a47.2.1.1 (by decide) rfl rfl (Nat.le_of_ble_eq_true rfl) (by decide) (by decide) (fun _ _ _ _ _ _ h => nomatch h.1) ?_
  rintro v n1 kd1 I1 J1 P1 ⟨h0, rfl, rfl, hq, -, -, h10, -, hJ⟩
  cases h0
  simp only [Option.toList, List.cons_append, List.nil_append]
  by_cases hb : fwB (rsT un cs M H 1001) = true
  · have hb' := hb
    unfold fwB at hb'
    rw [Bool.and_eq_true, decide_eq_true_iff, Bool.not_eq_true'] at hb'
    have hA : skA (rsT un cs M H 1001) = nI (rsT un cs M H 1001).2.1.length := by unfold skA; rw [hb'.1, if_neg (by decide), if_neg (by omega)]
    rw [hA] at h10
    rw [if_pos hb, hA]
    have P0 : P1 o = P o := hq.2.2.1 o (by omega)
    have P47 : P1 (o + 47) = P (o + 47) := hq.2.2.1 (o + 47) (by omega)
    have P56 : P1 (o + 56) = P (o + 56) := hq.2.2.1 (o + 56) (by omega)
    have g56' : kG kd1 P1 (o + 56) := by unfold kG at g56 ⊢; rw [P56]; exact g56
    have hIs : I1 s 0 = nI H := by rw [hq.1 s (by omega) (by omega)]; exact hst.1
    have hpr := c_X3_prepare (n := n1) (I := I1) (J := J1) (o + 56) (o + 48) (rsT un cs M H 1001).2.1.length H (nmF (rsT un cs M H 1001).2.1) g56' a47.2.1.1 (by rw [hq.2.2.2 7 (by decide) (by decide)]; exact a47.2.1.2.2.2.2.2.2.2.2.2.1) a47.2.1.2.2.2.2.1 (by omega) (by omega) hb'.2 hH8 (fun i h hi hh => by rw [hJ]; exact pk_num hdr.2 hM20 hH8 (by omega) hi hh) (fun i h hi hh => by have := (nmF_rng hdr.2 i h hi hh).2; omega) h10
    refine r_istore_n dX9_breaksLaw_102 (by decide) ?_
    refine r_iload_n dX9_breaksLaw_103 rfl ?_
    refine r_bipush (v := -2) dX9_breaksLaw_104 (by decide) ?_
    refine r_icmp_eq (tgt := 115) dX9_breaksLaw_106 (by decide) (fun hz => absurd hz (show ¬ _ from (nI_m2 (by omega)))) (fun _ => ?_)
    refine r_iload_n dX9_breaksLaw_109 rfl ?_
    refine r_bipush (v := nI 40) dX9_breaksLaw_110 (by decide) ?_
    refine r_icmp_le (tgt := 118) dX9_breaksLaw_112 (by decide) (fun _ => ?_) (fun hz => absurd (show _ from (by rw [nI_leI (by omega) (by omega)]; omega)) hz)
    refine r_aload_n dX9_breaksLaw_118 rfl ?_
    refine r_getR dX9_breaksLaw_119 fl_X9_71 rfl c0 (by rw [P0]; exact e13) ?_
    refine r_aload_n dX9_breaksLaw_122 rfl ?_
    refine r_getR dX9_breaksLaw_123 fl_X9_64 rfl c0 (by rw [P0]; exact e12) ?_
    refine r_getR dX9_breaksLaw_126 fl_X9_198 rfl a47.1 (by rw [P47]; exact a47.2.2.2.2.1) ?_
    refine r_aload_n dX9_breaksLaw_129 rfl ?_
    refine r_getR dX9_breaksLaw_130 fl_X9_31 rfl c0 (by rw [P0]; exact e5) ?_
    refine r_getI dX9_breaksLaw_133 fl_X9_124 rfl kSs.1 ?_
    rw [hIs]
    refine r_virt (kc2 := 1) (ks2 := 10240) hpr lk_X9_372 mc_X3_prepare dX9_breaksLaw_136 g56.1 (by decide) rfl rfl (Nat.le_of_ble_eq_true rfl) (by decide) (by decide) (fun _ _ _ _ _ _ hx => by obtain ⟨_, _, hx⟩ := hx; exact nomatch hx.1) ?_
    rintro v n2 kd2 I2 J2 P2 ⟨A, hA2, h0, rfl, rfl, rfl, rfl, rfl⟩
    cases h0
    simp only [Option.toList, List.nil_append]
    have hlk := c_looksN (n := n2) (kd := kd2) (P := P2) (I := pI I1 (o + 56) H (rsT un cs M H 1001).2.1.length) (J := va_up J1 (o + 56 + 1) A) (o + 56) H (rsT un cs M H 1001).2.1 g56' (by
      rw [P56]
      rcases hsc with h | ⟨z, h1, h2, h3, h4⟩
      · exact Or.inl h
      · exact Or.inr ⟨z, h1, h2, by omega⟩) (by omega) (by omega) (pI_0 _ _ _ _) (pI_1 _ _ _ _) (fun h i hh hi => by rw [am_up_s]; exact hA2 h i hh hi) hb'.2 hH8
    refine r_aload_n dX9_breaksLaw_139 rfl ?_
    refine r_getR dX9_breaksLaw_140 fl_X9_71 rfl c0 (by rw [P0]; exact e13) ?_
    refine r_virt (kc2 := 0) (ks2 := 0) hlk lk_X9_222 mc_X3_fewestLooks dX9_breaksLaw_143 g56.1 (by decide) rfl rfl (Nat.le_of_ble_eq_true rfl) (by decide) (by decide) (fun _ _ _ _ _ _ hx => nomatch hx.1) ?_
    rintro v n3 kd3 I3 J3 P3 ⟨h0, hnn, k3, i3, j3, p3, p3k, hz3⟩
    cases h0
    simp only [Option.toList, List.cons_append, List.nil_append]
    have hl8 := lookV_8 H (rsT un cs M H 1001).2.1
    have pI_o : ∀ a, a ≠ o + 56 → pI I1 (o + 56) H (rsT un cs M H 1001).2.1.length a = I1 a := fun a ha => by unfold pI; rw [am_up_n _ _ ha]
    have hs3 : I3 s 0 = nI H := by
      rw [i3 s (by omega) (by
        rw [P56]
        rcases hsc with h | ⟨z, h1, h2, h3, h4⟩
        · rw [h]; exact fun q => nomatch q
        · rw [h1]; intro q; have := Option.some.inj q; omega), pI_o s (by omega)]
      exact hIs
    have hfin : ∀ v, bkP n2 kd2 I J P o s v (.inl (some (.int v))) n3 kd3 I3 J3 P3 := fun v => by
      refine ⟨rfl, hnn, ⟨k3, fun a a1 a2 a4 a5 => ?_, fun a a1 a2 => ?_, fun a a1 a2 a4 => ?_, fun k x y => ?_, fun k x => ?_⟩, ?_, ?_⟩
      · rw [i3 a a1 (by rw [P56]; exact a5), pI_o a (by omega)]
        exact hq.1 a (by omega) a4
      · rw [j3 a a1, am_up_n _ _ (by omega)]
        exact hq.2.1 a (by omega)
      · rw [p3 a a1 a4]
        exact hq.2.2.1 a a2
      · rw [p3 (o + 48) (by omega) (by omega)]
        exact hq.2.2.2 k x y
      · rw [p3k k x, P56]
      · unfold scr
        rcases hz3 with h | ⟨z, h1, h2, h3, h4⟩
        · rw [h, P56]
          rcases hsc with h | ⟨z, h1, h2, h3, h4⟩
          · exact Or.inl h
          · exact Or.inr ⟨z, h1, by rw [k3 z h4]; exact h2, h3, by omega⟩
        · exact Or.inr ⟨z, h3, h4, by omega, h2⟩
      · rcases hz3 with h | ⟨z, h1, h2, h3, h4⟩
        · exact Or.inl (by rw [h, P56])
        · exact Or.inr ⟨z, h1, h3⟩
    have P30 : P3 o = P o := by rw [p3 o (by omega) (by omega)]; exact P0
    have ks3 : kd3 s = some (0, 7) := by rw [k3 s (by omega)]; exact kSs.1
    have ko3 : kd3 o = some (0, 9) := by rw [k3 o (by omega)]; exact c0
    by_cases hlt : lookV H (rsT un cs M H 1001).2.1 < H
    · rw [if_pos hlt]
      refine r_aload_n dX9_breaksLaw_146 rfl ?_
      refine r_getR dX9_breaksLaw_147 fl_X9_31 rfl ko3 (by rw [P30]; exact e5) ?_
      refine r_getI dX9_breaksLaw_150 fl_X9_124 rfl ks3 ?_
      rw [hs3]
      refine r_icmp_ge (tgt := 160) dX9_breaksLaw_153 (by decide) (fun hz => absurd hz (show ¬ _ from (by rw [nI_leI (by omega) (by omega)]; omega))) (fun _ => ?_)
      refine r_iconst (v := nI 0) dX9_breaksLaw_156 (by decide) ?_
      refine r_goto (tgt := 161) dX9_breaksLaw_157 (by decide) ?_
      refine r_iret rfl dX9_breaksLaw_161 ?_
      exact hfin _
    · rw [if_neg hlt]
      refine r_aload_n dX9_breaksLaw_146 rfl ?_
      refine r_getR dX9_breaksLaw_147 fl_X9_31 rfl ko3 (by rw [P30]; exact e5) ?_
      refine r_getI dX9_breaksLaw_150 fl_X9_124 rfl ks3 ?_
      rw [hs3]
      refine r_icmp_ge (tgt := 160) dX9_breaksLaw_153 (by decide) (fun _ => ?_) (fun hz => absurd (show _ from (by rw [nI_leI (by omega) (by omega)]; omega)) hz)
      refine r_iconst (v := nI 1) dX9_breaksLaw_160 (by decide) ?_
      refine r_iret rfl dX9_breaksLaw_161 ?_
      exact hfin _
  · rw [if_neg hb]
    have hbf : ¬ (((rsT un cs M H 1001).2.2 = false) ∧ (rsT un cs M H 1001).2.1.length ≤ 40) := fun q => hb (by unfold fwB; rw [q.1, decide_eq_true q.2]; rfl)
    by_cases hA : skA (rsT un cs M H 1001) = -2
    · rw [hA]
      refine r_istore_n dX9_breaksLaw_102 (by decide) ?_
      refine r_iload_n dX9_breaksLaw_103 rfl ?_
      refine r_bipush (v := -2) dX9_breaksLaw_104 (by decide) ?_
      refine r_icmp_eq (tgt := 115) dX9_breaksLaw_106 (by decide) (fun _ => ?_) (fun hz => absurd (show _ from rfl) hz)
      refine r_bipush (v := -2) dX9_breaksLaw_115 (by decide) ?_
      refine r_iret rfl dX9_breaksLaw_117 ?_
      exact bkP.q hsc hq
    · have hA2 : (rsT un cs M H 1001).2.2 = false ∧ (rsT un cs M H 1001).2.1.length ≤ 1000 ∧ skA (rsT un cs M H 1001) = nI (rsT un cs M H 1001).2.1.length := by
        unfold skA at hA ⊢
        split at hA
        · exact absurd rfl hA
        · split at hA
          · exact absurd rfl hA
          · refine ⟨by simpa using ‹¬ _ = true›, by omega, by rw [if_neg ‹_›, if_neg ‹_›]⟩
      have hA3 : ¬ (rsT un cs M H 1001).2.1.length ≤ 40 := fun q => hbf ⟨hA2.1, q⟩
      rw [hA2.2.2]
      refine r_istore_n dX9_breaksLaw_102 (by decide) ?_
      refine r_iload_n dX9_breaksLaw_103 rfl ?_
      refine r_bipush (v := -2) dX9_breaksLaw_104 (by decide) ?_
      refine r_icmp_eq (tgt := 115) dX9_breaksLaw_106 (by decide) (fun hz => absurd hz (show ¬ _ from (nI_m2 (by omega)))) (fun _ => ?_)
      refine r_iload_n dX9_breaksLaw_109 rfl ?_
      refine r_bipush (v := nI 40) dX9_breaksLaw_110 (by decide) ?_
      refine r_icmp_le (tgt := 118) dX9_breaksLaw_112 (by decide) (fun hz => absurd hz (show ¬ _ from (by rw [nI_leI (by omega) (by omega)]; omega))) (fun _ => ?_)
      refine r_bipush (v := -2) dX9_breaksLaw_115 (by decide) ?_
      refine r_iret rfl dX9_breaksLaw_117 ?_
      exact bkP.q hsc hq

set_option maxHeartbeats 4000000 in
set_option maxRecDepth 100000 in
theorem c_X9_breaksLaw (o b s f l M H : Nat) (un : Bool) (cs : Nat → List Nat) (law : Nat) {n : Nat} {kd : mK} {I : mI} {J : mJ} {P : mP} (hX : kX kd P o b s f l) (hc : csOK cs H) (hH8 : H ≤ 8) (hM20 : M ≤ 20) (hst : stM cs H I s) (hmo : I s 1 = nI M) (hu : decide (I s 2 = 0) = (!un)) (hl : I l 2 = nI 0 ∧ I l 7 = nI 0 ∧ ∀ j, j < 8 → I (l + 1) j = nI 0 ∧ I (l + 2) j = nI 0) (hn : o + 69 ≤ n) (hn9 : n < 999999) (hsc : scr kd P o n) (hlaw : law ≤ 2) : Ct yX9_breaksLaw cX9_breaksLaw 3 (some .int) 22 1 10240 [.ref o, .int (nI law)] n kd I J P (bkP n kd I J P o s (lawB law H M un cs)) := by
  rcases (by omega : law = 0 ∨ law = 1 ∨ law = 2) with e | e | e
  · rw [e]; exact c_brk0 o b s f l M H un cs hX hc hH8 hM20 hst hmo hu hl hn hn9 hsc
  · rw [e]; exact c_brk1 o b s f l M H un cs hX hc hH8 hM20 hst hmo hu hl hn hn9 hsc
  · rw [e]; exact c_brk2 o b s f l M H un cs hX hc hH8 hM20 hst hmo hu hl hn hn9 hsc

/-! LOOKING AT DOORS: the class -/
def alB (q : Nat → Bool) : Nat → Nat
  | 0 => 0
  | j + 1 => if q j then alB q j ||| 2 ^ j else alB q j
theorem alB_bit (q : Nat → Bool) : ∀ (c k : Nat), (alB q c).testBit k = (decide (k < c) && q k)
  | 0, k => by unfold alB; simp
  | c + 1, k => by
    unfold alB
    by_cases h : q c = true
    · rw [if_pos h, Nat.testBit_or, alB_bit q c k, Nat.testBit_two_pow]
      by_cases e : c = k
      · subst e; simp [h]
      · by_cases l : k < c
        · simp [l, e, show k < c + 1 by omega]
        · simp [l, e, show ¬ k < c + 1 by omega]
    · rw [if_neg h, alB_bit q c k]
      by_cases e : c = k
      · subst e; simp at h; simp [h]
      · by_cases l : k < c
        · simp [l, show k < c + 1 by omega]
        · simp [l, show ¬ k < c + 1 by omega]
theorem alB_lt (q : Nat → Bool) (c : Nat) : alB q c < 2 ^ c := Nat.lt_pow_two_of_testBit _ (fun i hi => by rw [alB_bit]; simp; omega)
theorem alB_all (c : Nat) : alB (fun _ => true) c = 2 ^ c - 1 := tb_ext (fun k => by rw [alB_bit, Nat.testBit_two_pow_sub_one]; simp)
def alF (nm : Nat → Nat → Nat) (c h i : Nat) : Nat := alB (fun j => decide (nm i h = nm j h)) c
theorem alF_O (nm : Nat → Nat → Nat) (c H : Nat) : alO nm c H (alF nm c) := fun h _ i j _ => by unfold alF; rw [alB_bit]; simp
/-- numberings that are like one at the doors D -/
def agB (nm : Nat → Nat → Nat) (H D i j : Nat) : Bool := (List.range H).all fun h => !D.testBit h || decide (nm i h = nm j h)
def clB (nm : Nat → Nat → Nat) (c H D i : Nat) : Nat := alB (agB nm H D i) c
theorem agB_iff {nm : Nat → Nat → Nat} {H D i j : Nat} : agB nm H D i j = true ↔ ∀ h, h < H → D.testBit h = true → nm i h = nm j h := by
  unfold agB
  rw [List.all_eq_true]
  constructor
  · intro h x hx hD
    have := h x (List.mem_range.mpr hx)
    rw [hD] at this
    simpa using this
  · intro h x hx
    have hx := List.mem_range.mp hx
    by_cases q : D.testBit x = true
    · simp [h x hx q]
    · simp at q; simp [q]
theorem clB_bit {nm : Nat → Nat → Nat} {c H D i j : Nat} : (clB nm c H D i).testBit j = true ↔ j < c ∧ ∀ h, h < H → D.testBit h = true → nm i h = nm j h := by
  unfold clB
  rw [alB_bit, Bool.and_eq_true, decide_eq_true_iff, agB_iff]
theorem clB_lt {nm : Nat → Nat → Nat} {c H D i : Nat} (hc : c ≤ 40) : clB nm c H D i < 2 ^ 40 := Nat.lt_of_lt_of_le (alB_lt _ c) (Nat.pow_le_pow_right (by decide) hc)
theorem clB_eq {nm : Nat → Nat → Nat} {c H D i j : Nat} (h : (clB nm c H D i).testBit j = true) : clB nm c H D j = clB nm c H D i := by
  have h := clB_bit.mp h
  apply tb_ext
  intro k
  apply b_iff
  rw [clB_bit, clB_bit]
  exact ⟨fun x => ⟨x.1, fun y hy hD => (h.2 y hy hD).trans (x.2 y hy hD)⟩, fun x => ⟨x.1, fun y hy hD => (h.2 y hy hD).symm.trans (x.2 y hy hD)⟩⟩
theorem clB_step {nm : Nat → Nat → Nat} {c H D i j h : Nat} (hh : h < H) (hj : (clB nm c H D i).testBit j = true) : clB nm c H D i &&& alF nm c h j = clB nm c H (D ||| 2 ^ h) j := by
  have hb := clB_bit.mp hj
  apply tb_ext
  intro k
  apply b_iff
  rw [Nat.testBit_and, Bool.and_eq_true, clB_bit, clB_bit, alF_O nm c H h hh j k hb.1]
  constructor
  · rintro ⟨⟨h1, h2⟩, -, h3⟩
    refine ⟨h1, fun y hy hD => ?_⟩
    rw [Nat.testBit_or, Nat.testBit_two_pow] at hD
    by_cases q : D.testBit y = true
    · exact (hb.2 y hy q).symm.trans (h2 y hy q)
    · simp at q
      rw [q] at hD
      simp at hD
      subst hD
      exact h3
  · rintro ⟨h1, h2⟩
    refine ⟨⟨h1, fun y hy hD => (hb.2 y hy hD).trans (h2 y hy (by rw [Nat.testBit_or, hD]; rfl))⟩, h1, h2 h hh (by rw [Nat.testBit_or, Nat.testBit_two_pow]; simp)⟩
theorem clB_0 {nm : Nat → Nat → Nat} {c H i : Nat} : clB nm c H 0 i = 2 ^ c - 1 := tb_ext (fun k => by
  apply b_iff
  rw [clB_bit, Nat.testBit_two_pow_sub_one, decide_eq_true_iff]
  exact ⟨fun h => h.1, fun h => ⟨h, fun y _ hD => by rw [Nat.zero_testBit] at hD; exact nomatch hD⟩⟩)
theorem or_sh : ∀ D, D < 256 → ∀ h, h < 8 → nI D ||| (nI 1 <<< (nI h &&& 31)) = nI (D ||| 2 ^ h) := by decide +kernel
theorem sh_40 : ∀ H, H ≤ 8 → (nI 1 <<< (nI H &&& 31)) * nI 40 = nI (2 ^ H * 40) ∧ 2 ^ H * 40 ≤ 10240 := by decide +kernel
theorem sh_jN : ∀ c, c ≤ 40 → (1 : Int64) <<< ((nI c).toInt64 &&& 63) - 1 = jN (2 ^ c - 1) := by decide +kernel
theorem gB_all {W : Nat → Nat} {D : Nat} : ∀ H, (∀ h, h < H → D.testBit h = true) → gB W D H = 8
  | 0, _ => rfl
  | H + 1, h => by unfold gB; rw [if_pos (h H (by omega)), gB_all H (fun x hx => h x (by omega))]
theorem wl_8 {v : Nat → Nat} {al : Nat → Nat} {w : Nat} (hv : ∀ x, v x ≤ 8) : ∀ (k i worst rest : Nat), worst ≤ 8 → wl v al w k i worst rest ≤ 8
  | 0, i, worst, rest, h => by unfold wl; exact h
  | k + 1, i, worst, rest, h => by
    unfold wl
    have := hv (w &&& al i)
    split
    · exact h
    · split
      · exact wl_8 hv k _ _ _ (by split; omega; omega)
      · exact wl_8 hv k _ _ _ h
set_option maxHeartbeats 4000000 in
set_option maxRecDepth 100000 in
theorem c_numN (s i h v : Nat) {n : Nat} {kd : mK} {I : mI} {J : mJ} {P : mP} (k0 : kd s = some (0, 6)) (k7 : P s 7 = some (s + 4)) (k4 : kd (s + 4) = some (4, 1000)) (hi : i < 1000) (hv : (J (s + 4) i >>> ((nI 5 * nI h).toInt64 &&& 63)).toInt32 &&& nI 31 = nI v) : Ct yX6_numberIn cX6_numberIn 3 (some .int) 1 0 0 [.ref s, .int (nI i), .int (nI h)] n kd I J P (am_is (some (.int (nI v))) n kd I J P) := by
  have h := c_X6_numberIn (n := n) (I := I) (J := J) s (s + 4) (nI i) (nI h) k0 k7 k4
  rw [if_neg (z_nlt (by omega)), if_pos ((nI_ltI (by omega) (by omega)).mpr hi), nI_clamp (by omega), hv] at h
  exact h

theorem dX3_prepare_0 : decode cX3_prepare 0 = .ok (.aload_n 0, 1) := by decide +kernel
theorem dX3_prepare_1 : decode cX3_prepare 1 = .ok (.iload_n 2, 1) := by decide +kernel
theorem dX3_prepare_2 : decode cX3_prepare 2 = .ok (.bipush 8, 2) := by decide +kernel
theorem dX3_prepare_4 : decode cX3_prepare 4 = .ok (.invokestatic 26, 3) := by decide +kernel
theorem dX3_prepare_7 : decode cX3_prepare 7 = .ok (.putfield 9, 3) := by decide +kernel
theorem dX3_prepare_10 : decode cX3_prepare 10 = .ok (.aload_n 0, 1) := by decide +kernel
theorem dX3_prepare_11 : decode cX3_prepare 11 = .ok (.aload_n 1, 1) := by decide +kernel
theorem dX3_prepare_12 : decode cX3_prepare 12 = .ok (.getfield 32, 3) := by decide +kernel
theorem dX3_prepare_15 : decode cX3_prepare 15 = .ok (.bipush 40, 2) := by decide +kernel
theorem dX3_prepare_17 : decode cX3_prepare 17 = .ok (.invokestatic 26, 3) := by decide +kernel
theorem dX3_prepare_20 : decode cX3_prepare 20 = .ok (.putfield 15, 3) := by decide +kernel
theorem dX3_prepare_23 : decode cX3_prepare 23 = .ok (.iconst 0, 1) := by decide +kernel
theorem dX3_prepare_24 : decode cX3_prepare 24 = .ok (.istore_n 3, 1) := by decide +kernel
theorem dX3_prepare_25 : decode cX3_prepare 25 = .ok (.iload_n 3, 1) := by decide +kernel
theorem dX3_prepare_26 : decode cX3_prepare 26 = .ok (.aload_n 0, 1) := by decide +kernel
theorem dX3_prepare_27 : decode cX3_prepare 27 = .ok (.getfield 9, 3) := by decide +kernel
theorem dX3_prepare_30 : decode cX3_prepare 30 = .ok (.if_icmp .ge 88, 3) := by decide +kernel
theorem dX3_prepare_33 : decode cX3_prepare 33 = .ok (.iconst 0, 1) := by decide +kernel
theorem dX3_prepare_34 : decode cX3_prepare 34 = .ok (.istore 4, 2) := by decide +kernel
theorem dX3_prepare_36 : decode cX3_prepare 36 = .ok (.iload 4, 2) := by decide +kernel
theorem dX3_prepare_38 : decode cX3_prepare 38 = .ok (.aload_n 0, 1) := by decide +kernel
theorem dX3_prepare_39 : decode cX3_prepare 39 = .ok (.getfield 15, 3) := by decide +kernel
theorem dX3_prepare_42 : decode cX3_prepare 42 = .ok (.if_icmp .ge 70, 3) := by decide +kernel
theorem dX3_prepare_45 : decode cX3_prepare 45 = .ok (.lconst 0, 1) := by decide +kernel
theorem dX3_prepare_46 : decode cX3_prepare 46 = .ok (.lstore 5, 2) := by decide +kernel
theorem dX3_prepare_48 : decode cX3_prepare 48 = .ok (.iconst 0, 1) := by decide +kernel
theorem dX3_prepare_49 : decode cX3_prepare 49 = .ok (.istore 7, 2) := by decide +kernel
theorem dX3_prepare_51 : decode cX3_prepare 51 = .ok (.iload 7, 2) := by decide +kernel
theorem dX3_prepare_53 : decode cX3_prepare 53 = .ok (.aload_n 0, 1) := by decide +kernel
theorem dX3_prepare_54 : decode cX3_prepare 54 = .ok (.getfield 15, 3) := by decide +kernel
theorem dX3_prepare_57 : decode cX3_prepare 57 = .ok (.if_icmp .ge 35, 3) := by decide +kernel
theorem dX3_prepare_60 : decode cX3_prepare 60 = .ok (.aload_n 1, 1) := by decide +kernel
theorem dX3_prepare_61 : decode cX3_prepare 61 = .ok (.iload 4, 2) := by decide +kernel
theorem dX3_prepare_63 : decode cX3_prepare 63 = .ok (.iload_n 3, 1) := by decide +kernel
theorem dX3_prepare_64 : decode cX3_prepare 64 = .ok (.invokevirtual 37, 3) := by decide +kernel
theorem dX3_prepare_67 : decode cX3_prepare 67 = .ok (.aload_n 1, 1) := by decide +kernel
theorem dX3_prepare_68 : decode cX3_prepare 68 = .ok (.iload 7, 2) := by decide +kernel
theorem dX3_prepare_70 : decode cX3_prepare 70 = .ok (.iload_n 3, 1) := by decide +kernel
theorem dX3_prepare_71 : decode cX3_prepare 71 = .ok (.invokevirtual 37, 3) := by decide +kernel
theorem dX3_prepare_74 : decode cX3_prepare 74 = .ok (.if_icmp .ne 12, 3) := by decide +kernel
theorem dX3_prepare_77 : decode cX3_prepare 77 = .ok (.lload 5, 2) := by decide +kernel
theorem dX3_prepare_79 : decode cX3_prepare 79 = .ok (.lconst 1, 1) := by decide +kernel
theorem dX3_prepare_80 : decode cX3_prepare 80 = .ok (.iload 7, 2) := by decide +kernel
theorem dX3_prepare_82 : decode cX3_prepare 82 = .ok (.lshl, 1) := by decide +kernel
theorem dX3_prepare_83 : decode cX3_prepare 83 = .ok (.lor, 1) := by decide +kernel
theorem dX3_prepare_84 : decode cX3_prepare 84 = .ok (.lstore 5, 2) := by decide +kernel
theorem dX3_prepare_86 : decode cX3_prepare 86 = .ok (.iinc 7 1, 3) := by decide +kernel
theorem dX3_prepare_89 : decode cX3_prepare 89 = .ok (.goto (-38), 3) := by decide +kernel
theorem dX3_prepare_92 : decode cX3_prepare 92 = .ok (.aload_n 0, 1) := by decide +kernel
theorem dX3_prepare_93 : decode cX3_prepare 93 = .ok (.getfield 18, 3) := by decide +kernel
theorem dX3_prepare_96 : decode cX3_prepare 96 = .ok (.iload_n 3, 1) := by decide +kernel
theorem dX3_prepare_97 : decode cX3_prepare 97 = .ok (.bipush 40, 2) := by decide +kernel
theorem dX3_prepare_99 : decode cX3_prepare 99 = .ok (.imul, 1) := by decide +kernel
theorem dX3_prepare_100 : decode cX3_prepare 100 = .ok (.iload 4, 2) := by decide +kernel
theorem dX3_prepare_102 : decode cX3_prepare 102 = .ok (.iadd, 1) := by decide +kernel
theorem dX3_prepare_103 : decode cX3_prepare 103 = .ok (.lload 5, 2) := by decide +kernel
theorem dX3_prepare_105 : decode cX3_prepare 105 = .ok (.lastore, 1) := by decide +kernel
theorem dX3_prepare_106 : decode cX3_prepare 106 = .ok (.iinc 4 1, 3) := by decide +kernel
theorem dX3_prepare_109 : decode cX3_prepare 109 = .ok (.goto (-73), 3) := by decide +kernel
theorem dX3_prepare_112 : decode cX3_prepare 112 = .ok (.iinc 3 1, 3) := by decide +kernel
theorem dX3_prepare_115 : decode cX3_prepare 115 = .ok (.goto (-90), 3) := by decide +kernel
theorem dX3_prepare_118 : decode cX3_prepare 118 = .ok (.return_, 1) := by decide +kernel

def pI (I : mI) (k H c : Nat) : mI := va_up I k (va_up (va_up (I k) 0 (nI H)) 1 (nI c))
theorem pI_0 (I : mI) (k H c : Nat) : pI I k H c k 0 = nI H := by unfold pI; rw [am_up_s, am_up_n _ _ (by decide), am_up_s]
theorem pI_1 (I : mI) (k H c : Nat) : pI I k H c k 1 = nI c := by unfold pI; rw [am_up_s, am_up_s]
set_option maxHeartbeats 4000000 in
set_option maxRecDepth 100000 in
theorem wj_X3_prepare (k s c H : Nat) (nm : Nat → Nat → Nat) (h i : Nat) {n : Nat} {kd : mK} {I : mI} {J : mJ} {P : mP} {post : am_Post} (hG : kG kd P k) (k0 : kd s = some (0, 6)) (k7 : P s 7 = some (s + 4)) (k4 : kd (s + 4) = some (4, 1000)) (hks : s ≠ k) (hks4 : s + 4 ≠ k + 1) (hc : c ≤ 40) (hH : H ≤ 8) (hJ : (∀ i h, i < c → h < H → (J (s + 4) i >>> ((nI 5 * nI h).toInt64 &&& 63)).toInt32 &&& nI 31 = nI (nm i h))) (hnb : ∀ i h, i < c → h < H → nm i h < 2 ^ 31) (hh : h < H) (hi : i < c) (hk : Ru yX3_prepare.cls cX3_prepare 8 none yX3_prepare.name 2 (post) 0 0 92 [some (.ref k), some (.ref s), some (.int (nI H)), some (.int (nI h)), some (.int (nI i)), some (.long (jN (alF nm c h i))), none, some (.int (nI c))] [] n kd (pI I k H c) J P) : ∀ (cnt j : Nat), j + cnt = c → Ru yX3_prepare.cls cX3_prepare 8 none yX3_prepare.name 2 (post) 0 0 51 [some (.ref k), some (.ref s), some (.int (nI H)), some (.int (nI h)), some (.int (nI i)), some (.long (jN (alB (fun j => decide (nm i h = nm j h)) j))), none, some (.int (nI j))] [] n kd (pI I k H c) J P := by
  intro cnt
  induction cnt with
  | zero =>
    intro j hj
    have e : j = c := by omega
    subst e
    refine r_iload dX3_prepare_51 rfl ?_
    refine r_aload_n dX3_prepare_53 rfl ?_
    refine r_getI dX3_prepare_54 fl_X3_15 rfl hG.1 ?_
    rw [pI_1]
    refine r_icmp_ge (tgt := 92) dX3_prepare_57 (by decide) (fun _ => ?_) (fun hz => absurd (show _ from (by rw [nI_leI (by omega) (by omega)]; omega)) hz)
    exact hk
  | succ cnt ih =>
    intro j hj
    have ihn := ih (j + 1) (by omega)
    unfold alB at ihn
    have b1 := hJ i h hi hh
    by_cases ce : nm i h = nm j h
    · rw [if_pos (decide_eq_true ce)] at ihn
      refine r_iload dX3_prepare_51 rfl ?_
      refine r_aload_n dX3_prepare_53 rfl ?_
      refine r_getI dX3_prepare_54 fl_X3_15 rfl hG.1 ?_
      rw [pI_1]
      refine r_icmp_ge (tgt := 92) dX3_prepare_57 (by decide) (fun hz => absurd hz (show ¬ _ from (by rw [nI_leI (by omega) (by omega)]; omega))) (fun _ => ?_)
      refine r_aload_n dX3_prepare_60 rfl ?_
      refine r_iload dX3_prepare_61 rfl ?_
      refine r_iload_n dX3_prepare_63 rfl ?_
      refine r_virtE (c_numN s i h (nm i h) k0 k7 k4 (by omega) (hJ i h (by omega) hh)) lk_X3_37 mc_X6_numberIn dX3_prepare_64 k0 (by decide) rfl rfl (Nat.le_of_ble_eq_true rfl) ?_
      refine r_aload_n dX3_prepare_67 rfl ?_
      refine r_iload dX3_prepare_68 rfl ?_
      refine r_iload_n dX3_prepare_70 rfl ?_
      refine r_virtE (c_numN s j h (nm j h) k0 k7 k4 (by omega) (hJ j h (by omega) hh)) lk_X3_37 mc_X6_numberIn dX3_prepare_71 k0 (by decide) rfl rfl (Nat.le_of_ble_eq_true rfl) ?_
      refine r_icmp_ne (tgt := 86) dX3_prepare_74 (by decide) (fun hz => absurd (show _ from by rw [ce]) hz) (fun _ => ?_)
      refine r_lload dX3_prepare_77 rfl ?_
      refine r_lconst (v := 1) dX3_prepare_79 (by decide) ?_
      refine r_iload dX3_prepare_80 rfl ?_
      refine r_lshl dX3_prepare_82 ?_
      rw [jN_sh1 j (by omega)]
      refine r_lor dX3_prepare_83 ?_
      rw [jN_or]
      refine r_lstore dX3_prepare_84 (by decide) ?_
      refine r_iinc (v := nI (j + 1)) dX3_prepare_86 rfl (nI_inc j) ?_
      refine r_goto (tgt := 51) dX3_prepare_89 (by decide) ?_
      exact ihn
    · rw [if_neg (by simp [ce])] at ihn
      have hne : ¬ nI (nm i h) = nI (nm j h) := fun z => ce ((nI_eq (hnb i h hi hh) (hnb j h (by omega) hh)).mp z)
      refine r_iload dX3_prepare_51 rfl ?_
      refine r_aload_n dX3_prepare_53 rfl ?_
      refine r_getI dX3_prepare_54 fl_X3_15 rfl hG.1 ?_
      rw [pI_1]
      refine r_icmp_ge (tgt := 92) dX3_prepare_57 (by decide) (fun hz => absurd hz (show ¬ _ from (by rw [nI_leI (by omega) (by omega)]; omega))) (fun _ => ?_)
      refine r_aload_n dX3_prepare_60 rfl ?_
      refine r_iload dX3_prepare_61 rfl ?_
      refine r_iload_n dX3_prepare_63 rfl ?_
      refine r_virtE (c_numN s i h (nm i h) k0 k7 k4 (by omega) (hJ i h (by omega) hh)) lk_X3_37 mc_X6_numberIn dX3_prepare_64 k0 (by decide) rfl rfl (Nat.le_of_ble_eq_true rfl) ?_
      refine r_aload_n dX3_prepare_67 rfl ?_
      refine r_iload dX3_prepare_68 rfl ?_
      refine r_iload_n dX3_prepare_70 rfl ?_
      refine r_virtE (c_numN s j h (nm j h) k0 k7 k4 (by omega) (hJ j h (by omega) hh)) lk_X3_37 mc_X6_numberIn dX3_prepare_71 k0 (by decide) rfl rfl (Nat.le_of_ble_eq_true rfl) ?_
      refine r_icmp_ne (tgt := 86) dX3_prepare_74 (by decide) (fun _ => ?_) (fun hz => absurd hz (show ¬ _ from hne))
      refine r_iinc (v := nI (j + 1)) dX3_prepare_86 rfl (nI_inc j) ?_
      refine r_goto (tgt := 51) dX3_prepare_89 (by decide) ?_
      exact ihn

set_option maxHeartbeats 4000000 in
set_option maxRecDepth 100000 in
theorem wi_X3_prepare (k s c H : Nat) (nm : Nat → Nat → Nat) (h : Nat) {n : Nat} {kd : mK} {I : mI} {J : mJ} {P : mP} {post : am_Post} (hG : kG kd P k) (k0 : kd s = some (0, 6)) (k7 : P s 7 = some (s + 4)) (k4 : kd (s + 4) = some (4, 1000)) (hks : s ≠ k) (hks4 : s + 4 ≠ k + 1) (hc : c ≤ 40) (hH : H ≤ 8) (hJ : (∀ i h, i < c → h < H → (J (s + 4) i >>> ((nI 5 * nI h).toInt64 &&& 63)).toInt32 &&& nI 31 = nI (nm i h))) (hnb : ∀ i h, i < c → h < H → nm i h < 2 ^ 31) (hh : h < H) : ∀ (cnt i : Nat) (z5 z7 : Option Value) (A : Nat → Int64), i + cnt = c → (∀ (z5 z7 : Option Value) (A' : Nat → Int64), (∀ x, i ≤ x → x < c → A' (h * 40 + x) = jN (alF nm c h x)) → (∀ a, (a < h * 40 + i ∨ h * 40 + c ≤ a) → A' a = A a) → Ru yX3_prepare.cls cX3_prepare 8 none yX3_prepare.name 2 (post) 0 0 112 [some (.ref k), some (.ref s), some (.int (nI H)), some (.int (nI h)), some (.int (nI c)), z5, none, z7] [] n kd (pI I k H c) (va_up J (k + 1) A') P) → Ru yX3_prepare.cls cX3_prepare 8 none yX3_prepare.name 2 (post) 0 0 36 [some (.ref k), some (.ref s), some (.int (nI H)), some (.int (nI h)), some (.int (nI i)), z5, none, z7] [] n kd (pI I k H c) (va_up J (k + 1) A) P := by
  intro cnt
  induction cnt with
  | zero =>
    intro i z5 z7 A hi hk
    have e : i = c := by omega
    subst e
    refine r_iload dX3_prepare_36 rfl ?_
    refine r_aload_n dX3_prepare_38 rfl ?_
    refine r_getI dX3_prepare_39 fl_X3_15 rfl hG.1 ?_
    rw [pI_1]
    refine r_icmp_ge (tgt := 112) dX3_prepare_42 (by decide) (fun _ => ?_) (fun hz => absurd (show _ from (by rw [nI_leI (by omega) (by omega)]; omega)) hz)
    exact hk z5 z7 A (fun x h1 h2 => absurd h2 (by omega)) (fun _ _ => rfl)
  | succ cnt ih =>
    intro i z5 z7 A hi hk
    refine r_iload dX3_prepare_36 rfl ?_
    refine r_aload_n dX3_prepare_38 rfl ?_
    refine r_getI dX3_prepare_39 fl_X3_15 rfl hG.1 ?_
    rw [pI_1]
    refine r_icmp_ge (tgt := 112) dX3_prepare_42 (by decide) (fun hz => absurd hz (show ¬ _ from (by rw [nI_leI (by omega) (by omega)]; omega))) (fun _ => ?_)
    refine r_lconst (v := 0) dX3_prepare_45 (by decide) ?_
    refine r_lstore dX3_prepare_46 (by decide) ?_
    refine r_iconst (v := nI 0) dX3_prepare_48 (by decide) ?_
    refine r_istore dX3_prepare_49 (by decide) ?_
    refine wj_X3_prepare k s c H nm h i hG k0 k7 k4 hks hks4 hc hH (fun x y hx hy => by rw [am_up_n _ _ hks4]; exact hJ x y hx hy) hnb hh (by omega) ?_ c 0 (by omega)
    refine r_aload_n dX3_prepare_92 rfl ?_
    refine r_getR dX3_prepare_93 fl_X3_18 rfl hG.1 hG.2.2 ?_
    refine r_iload_n dX3_prepare_96 rfl ?_
    refine r_bipush (v := nI 40) dX3_prepare_97 (by decide) ?_
    refine r_imul dX3_prepare_99 ?_
    rw [pk_mul]
    refine r_iload dX3_prepare_100 rfl ?_
    refine r_iadd dX3_prepare_102 ?_
    rw [nI_add]
    refine r_lload dX3_prepare_103 rfl ?_
    refine r_last dX3_prepare_105 hG.2.1 (nI_in8 320 (by omega) (by decide)) (nI_clamp (by omega)) ?_
    rw [am_up_s, am_up_up]
    refine r_iinc (v := nI (i + 1)) dX3_prepare_106 rfl (nI_inc i) ?_
    refine r_goto (tgt := 36) dX3_prepare_109 (by decide) ?_
    exact ih (i + 1) _ _ _ (by omega) (fun z5 z7 A' h1 h2 => hk z5 z7 A' (fun x hx1 hx2 => by
      rcases Nat.lt_or_ge i x with q | q
      · exact h1 x (by omega) hx2
      · rw [show x = i by omega, h2 _ (Or.inl (by omega)), am_up_s]) (fun a ha => by rw [h2 a (by omega), am_up_n _ _ (by omega)]))

set_option maxHeartbeats 4000000 in
set_option maxRecDepth 100000 in
theorem wh_X3_prepare (k s c H : Nat) (nm : Nat → Nat → Nat) {n : Nat} {kd : mK} {I : mI} {J : mJ} {P : mP} (hG : kG kd P k) (k0 : kd s = some (0, 6)) (k7 : P s 7 = some (s + 4)) (k4 : kd (s + 4) = some (4, 1000)) (hks : s ≠ k) (hks4 : s + 4 ≠ k + 1) (hc : c ≤ 40) (hH : H ≤ 8) (hJ : (∀ i h, i < c → h < H → (J (s + 4) i >>> ((nI 5 * nI h).toInt64 &&& 63)).toInt32 &&& nI 31 = nI (nm i h))) (hnb : ∀ i h, i < c → h < H → nm i h < 2 ^ 31) : ∀ (cnt h : Nat) (z4 z5 z7 : Option Value) (A : Nat → Int64), h + cnt = H → (∀ y, z4 = some y → y.category = 1) → (∀ x i, x < h → i < c → A (x * 40 + i) = jN (alF nm c x i)) → Ru yX3_prepare.cls cX3_prepare 8 none yX3_prepare.name 2 (fun y n' kd' I' J' P' => ∃ A : Nat → Int64, (∀ x i, x < H → i < c → A (x * 40 + i) = jN (alF nm c x i)) ∧ am_is none n kd (pI I k H c) (va_up J (k + 1) A) P y n' kd' I' J' P') 0 0 25 [some (.ref k), some (.ref s), some (.int (nI H)), some (.int (nI h)), z4, z5, none, z7] [] n kd (pI I k H c) (va_up J (k + 1) A) P := by
  intro cnt
  induction cnt with
  | zero =>
    intro h z4 z5 z7 A hh hz hA
    have e : h = H := by omega
    subst e
    refine r_iload_n dX3_prepare_25 rfl ?_
    refine r_aload_n dX3_prepare_26 rfl ?_
    refine r_getI dX3_prepare_27 fl_X3_9 rfl hG.1 ?_
    rw [pI_0]
    refine r_icmp_ge (tgt := 118) dX3_prepare_30 (by decide) (fun _ => ?_) (fun hz => absurd (show _ from (by rw [nI_leI (by omega) (by omega)]; omega)) hz)
    refine r_vret rfl dX3_prepare_118 ?_
    exact ⟨A, hA, am_is.mk⟩
  | succ cnt ih =>
    intro h z4 z5 z7 A hh hz hA
    refine r_iload_n dX3_prepare_25 rfl ?_
    refine r_aload_n dX3_prepare_26 rfl ?_
    refine r_getI dX3_prepare_27 fl_X3_9 rfl hG.1 ?_
    rw [pI_0]
    refine r_icmp_ge (tgt := 118) dX3_prepare_30 (by decide) (fun hz => absurd hz (show ¬ _ from (by rw [nI_leI (by omega) (by omega)]; omega))) (fun _ => ?_)
    refine r_iconst (v := nI 0) dX3_prepare_33 (by decide) ?_
    refine r_istore dX3_prepare_34 (by decide) ?_
    refine wi_X3_prepare k s c H nm h hG k0 k7 k4 hks hks4 hc hH hJ hnb (by omega) c 0 z5 z7 A (by omega) (fun z5 z7 A' h1 h2 => ?_)
    refine r_iinc (v := nI (h + 1)) dX3_prepare_112 rfl (nI_inc h) ?_
    refine r_goto (tgt := 25) dX3_prepare_115 (by decide) ?_
    exact ih (h + 1) _ z5 z7 A' (by omega) (fun y hy => by cases hy; rfl) (fun x i hx hi => by
      rcases Nat.lt_or_ge x h with q | q
      · rw [h2 _ (Or.inl (by omega)), hA x i q hi]
      · rw [show x = h by omega, h1 i (Nat.zero_le i) hi])

set_option maxHeartbeats 4000000 in
set_option maxRecDepth 100000 in
theorem c_X3_prepare (k s c H : Nat) (nm : Nat → Nat → Nat) {n : Nat} {kd : mK} {I : mI} {J : mJ} {P : mP} (hG : kG kd P k) (k0 : kd s = some (0, 6)) (k7 : P s 7 = some (s + 4)) (k4 : kd (s + 4) = some (4, 1000)) (hks : s ≠ k) (hks4 : s + 4 ≠ k + 1) (hc : c ≤ 40) (hH : H ≤ 8) (hJ : (∀ i h, i < c → h < H → (J (s + 4) i >>> ((nI 5 * nI h).toInt64 &&& 63)).toInt32 &&& nI 31 = nI (nm i h))) (hnb : ∀ i h, i < c → h < H → nm i h < 2 ^ 31) (hf : I s 10 = nI c) : Ct yX3_prepare cX3_prepare 8 none 2 0 0 [.ref k, .ref s, .int (nI H)] n kd I J P (fun y n' kd' I' J' P' => ∃ A : Nat → Int64, (∀ x i, x < H → i < c → A (x * 40 + i) = jN (alF nm c x i)) ∧ am_is none n kd (pI I k H c) (va_up J (k + 1) A) P y n' kd' I' J' P') := by
  refine ct_of 5 (by decide +kernel) (Nat.le_of_ble_eq_true rfl) rfl ?_
  refine r_aload_n dX3_prepare_0 rfl ?_
  refine r_iload_n dX3_prepare_1 rfl ?_
  refine r_bipush (v := nI 8) dX3_prepare_2 (by decide) ?_
  refine r_mmin dX3_prepare_4 mm_X3_26 (by decide) (Nat.le_of_ble_eq_true rfl) ?_
  rw [mn_nI (by omega) (by omega), Nat.min_eq_left (by omega)]
  refine r_putI dX3_prepare_7 fl_X3_9 rfl rfl hG.1 ?_
  refine r_aload_n dX3_prepare_10 rfl ?_
  refine r_aload_n dX3_prepare_11 rfl ?_
  refine r_getI dX3_prepare_12 fl_X3_32 rfl k0 ?_
  rw [am_up_n _ _ hks, hf]
  refine r_bipush (v := nI 40) dX3_prepare_15 (by decide) ?_
  refine r_mmin dX3_prepare_17 mm_X3_26 (by decide) (Nat.le_of_ble_eq_true rfl) ?_
  rw [mn_nI (by omega) (by omega), Nat.min_eq_left (by omega)]
  refine r_putI dX3_prepare_20 fl_X3_15 rfl rfl hG.1 ?_
  rw [am_up_s, am_up_up]
  refine r_iconst (v := nI 0) dX3_prepare_23 (by decide) ?_
  refine r_istore_n dX3_prepare_24 (by decide) ?_
  have h0 := wh_X3_prepare (n := n) k s c H nm hG k0 k7 k4 hks hks4 hc hH (I := I) hJ hnb H 0 none none none (J (k + 1)) (by omega) (fun y hy => nomatch hy) (fun x i hx => absurd hx (by omega))
  rw [show va_up J (k + 1) (J (k + 1)) = J from am_up_id J (k + 1)] at h0
  exact h0


/-! STREET: the reference's reader, its state -/
def tkAt (T : RT) (i : Nat) : Tok := (T.2.2.1 i, T.2.2.2.1 i, T.2.2.2.2.1 i)
def opI (x : Nat) : Int32 := nI (if x = 0 then 14 else opw x)
def rcT (Cd : Nat → Int32) : List Nat → Nat → Nat → Prop
  | [], a, top => a = top
  | c :: t, a, top => if c < 20003 then (∃ w v, rval c w v ∧ Cd a = nI w ∧ Cd (a + 1) = nI v ∧ rcT Cd t (a + 2) top) else (Cd a = nI (opw c) ∧ rcT Cd t (a + 1) top)
theorem rcT_le {Cd : Nat → Int32} : ∀ (cs : List Nat) (a top : Nat), rcT Cd cs a top → a + cs.length ≤ top
  | [], a, top, h => by have h : a = top := h; rw [h]; exact Nat.le_refl _
  | c :: t, a, top, h => by
    unfold rcT at h
    split at h
    · obtain ⟨w, v, h1, h2, h3, h4⟩ := h
      have := rcT_le t _ _ h4
      simp only [List.length_cons]
      omega
    · have := rcT_le t _ _ h.2
      simp only [List.length_cons]
      omega
theorem rcT_cg {Cd Cd' : Nat → Int32} : ∀ (cs : List Nat) (a top : Nat), (∀ k, a ≤ k → k < top → Cd' k = Cd k) → rcT Cd cs a top → rcT Cd' cs a top
  | [], a, top, _, h => h
  | c :: t, a, top, hk, h => by
    have hl := rcT_le _ _ _ h
    simp only [List.length_cons] at hl
    unfold rcT at h ⊢
    split at h
    · rename_i q
      rw [if_pos q]
      obtain ⟨w, v, h1, h2, h3, h4⟩ := h
      have hl2 := rcT_le _ _ _ h4
      exact ⟨w, v, h1, (hk _ (by omega) (by omega)).trans h2, (hk _ (by omega) (by omega)).trans h3, rcT_cg t _ _ (fun k k1 k2 => hk k (by omega) k2) h4⟩
    · rename_i q
      rw [if_neg q]
      exact ⟨(hk _ (by omega) (by omega)).trans h.1, rcT_cg t _ _ (fun k k1 k2 => hk k (by omega) k2) h.2⟩
theorem rcT_v {Cd Cd' : Nat → Int32} {c w v : Nat} (hc : c < 20003) (hr : rval c w v) : ∀ (cs : List Nat) (a top : Nat), (∀ k, k < top → Cd' k = Cd k) → Cd' top = nI w → Cd' (top + 1) = nI v → rcT Cd cs a top → rcT Cd' (cs ++ [c]) a (top + 2)
  | [], a, top, hk, h1, h2, h => by
    have h : a = top := h
    subst h
    show rcT Cd' [c] a (a + 2)
    unfold rcT
    rw [if_pos hc]
    exact ⟨w, v, hr, h1, h2, rfl⟩
  | x :: t, a, top, hk, h1, h2, h => by
    have hl := rcT_le _ _ _ h
    simp only [List.length_cons] at hl
    show rcT Cd' (x :: (t ++ [c])) a (top + 2)
    unfold rcT at h ⊢
    split at h
    · rename_i q
      rw [if_pos q]
      obtain ⟨w2, v2, g1, g2, g3, g4⟩ := h
      have hl2 := rcT_le _ _ _ g4
      exact ⟨w2, v2, g1, (hk _ (by omega)).trans g2, (hk _ (by omega)).trans g3, rcT_v hc hr t _ _ hk h1 h2 g4⟩
    · rename_i q
      rw [if_neg q]
      exact ⟨(hk _ (by omega)).trans h.1, rcT_v hc hr t _ _ hk h1 h2 h.2⟩
theorem rcT_o {Cd Cd' : Nat → Int32} {c : Nat} (hc : ¬ c < 20003) : ∀ (cs : List Nat) (a top : Nat), (∀ k, k < top → Cd' k = Cd k) → Cd' top = nI (opw c) → rcT Cd cs a top → rcT Cd' (cs ++ [c]) a (top + 1)
  | [], a, top, hk, h1, h => by
    have h : a = top := h
    subst h
    show rcT Cd' [c] a (a + 1)
    unfold rcT
    rw [if_neg hc]
    exact ⟨h1, rfl⟩
  | x :: t, a, top, hk, h1, h => by
    have hl := rcT_le _ _ _ h
    simp only [List.length_cons] at hl
    show rcT Cd' (x :: (t ++ [c])) a (top + 1)
    unfold rcT at h ⊢
    split at h
    · rename_i q
      rw [if_pos q]
      obtain ⟨w2, v2, g1, g2, g3, g4⟩ := h
      have hl2 := rcT_le _ _ _ g4
      exact ⟨w2, v2, g1, (hk _ (by omega)).trans g2, (hk _ (by omega)).trans g3, rcT_o hc t _ _ hk h1 g4⟩
    · rename_i q
      rw [if_neg q]
      exact ⟨(hk _ (by omega)).trans h.1, rcT_o hc t _ _ hk h1 h.2⟩
theorem rcT_end {Cd : Nat → Int32} : ∀ (cs : List Nat) (a top : Nat), rcT Cd cs a top → top < 1299 → Cd top = nI 0 → rcs Cd cs a
  | [], a, top, h, ht, h0 => by
    have h : a = top := h
    subst h
    exact ⟨by omega, h0⟩
  | c :: t, a, top, h, ht, h0 => by
    have hl := rcT_le _ _ _ h
    simp only [List.length_cons] at hl
    unfold rcT at h
    unfold rcs
    refine ⟨by omega, ?_⟩
    split at h
    · rename_i q
      rw [if_pos q]
      obtain ⟨w, v, h1, h2, h3, h4⟩ := h
      exact ⟨w, v, h1, h2, h3, rcT_end t _ _ h4 ht h0⟩
    · rename_i q
      rw [if_neg q]
      exact ⟨h.1, rcT_end t _ _ h.2 ht h0⟩
/-- codes so far, from a0 on; what waits; tested -/
def eC (m a0 : Nat) (C0 : Nat → Int32) (I : mI) (out : List Nat) (top : Nat) : Prop := I m 30 = nI top ∧ rcT (I (m + 20)) out a0 top ∧ (∀ k, k < a0 → I (m + 20) k = C0 k) ∧ a0 ≤ top
def opOK (w : List Nat) : Prop := ∀ x ∈ w, x = 0 ∨ (20003 ≤ x ∧ x < 20012)
def eW (m : Nat) (I : mI) (w : List Nat) : Prop := I m 31 = nI w.length ∧ sr (I (m + 21)) (w.map opI) ∧ opOK w
def eD (m : Nat) (I : mI) (dp : Nat) (te : Nat → Bool) : Prop := I m 32 = nI dp ∧ dp ≤ 6 ∧ ∀ d, 1 ≤ d → d ≤ dp → I (m + 22) d = bz (te d)
/-- the reader as it is while all is good -/
def eG (m h : Nat) (T : RT) (a0 : Nat) (C0 : Nat → Int32) (sl : Nat) (I : mI) (J : mJ) (i : Nat) (out w : List Nat) (te : Nat → Bool) : Prop := (I m 16 = nI 0 ∧ I m 27 = nI h ∧ gIn m T.1 T.2.2.2.2.2 I) ∧ (gTk m T.2.2.2.2.2 I J (tkAt T i) ∧ i < T.2.1) ∧ (∃ top, eC m a0 C0 I out top ∧ top + w.length + 4 ≤ 2 * i + sl) ∧ I m 29 = nI (lkm 0 out % 256) ∧ eW m I w ∧ w.length ≤ i ∧ eD m I (opens w + 1) te
/-- a fault -/
def eB (m : Nat) (T : RT) (I : mI) (f j : Nat) : Prop := I m 16 = nI f ∧ (¬ f = 0 ∧ f < 4) ∧ I m 17 = nI (T.2.2.2.1 j) ∧ ∃ top wl, I m 30 = nI top ∧ I m 31 = nI wl ∧ top + wl ≤ 1100 ∧ wl ≤ 510
def kP (m : Nat) (I I' : mI) : Prop := I' m 16 = nI 0 → I m 16 = nI 0 ∧ I' m 17 = I m 17
theorem kP.same {m : Nat} {I I' : mI} (h6 : I' m 16 = I m 16) (h7 : I' m 17 = I m 17) : kP m I I' := fun z => ⟨h6.symm.trans z, h7⟩
theorem kP.tr {m : Nat} {I I1 I2 : mI} (h : kP m I I1) (g : kP m I1 I2) : kP m I I2 := fun z => ⟨(h (g z).1).1, (g z).2.trans (h (g z).1).2⟩
/-- what an expression may change -/
def eFr (m : Nat) (I I' : mI) (J J' : mJ) : Prop := (∀ a, a ≠ m → a ≠ m + 20 → a ≠ m + 21 → a ≠ m + 22 → I' a = I a) ∧ (∀ j, j ≠ 16 → j ≠ 17 → (j < 20 ∨ 25 < j) → (j < 29 ∨ 32 < j) → I' m j = I m j) ∧ (∀ a, a ≠ m → J' a = J a) ∧ (∀ j, j ≠ 26 → J' m j = J m j) ∧ kP m I I'
theorem eFr.rf {m : Nat} {I : mI} {J : mJ} : eFr m I I J J := ⟨fun _ _ _ _ _ => rfl, fun _ _ _ _ _ => rfl, fun _ _ => rfl, fun _ _ => rfl, kP.same rfl rfl⟩
theorem eFr.tr {m : Nat} {I I1 I2 : mI} {J J1 J2 : mJ} (h : eFr m I I1 J J1) (g : eFr m I1 I2 J1 J2) : eFr m I I2 J J2 := ⟨fun a x y z u => (g.1 a x y z u).trans (h.1 a x y z u), fun j x y z u => (g.2.1 j x y z u).trans (h.2.1 j x y z u), fun a x => (g.2.2.1 a x).trans (h.2.2.1 a x), fun j x => (g.2.2.2.1 j x).trans (h.2.2.2.1 j x), h.2.2.2.2.tr g.2.2.2.2⟩
theorem gFr.e {m : Nat} {I I1 : mI} {J J1 : mJ} (h : gFr m I I1 J J1) : eFr m I I1 J J1 := ⟨fun a x _ _ _ => h.1 a x, fun j _ _ x _ => h.2.1 j x, h.2.2.1, h.2.2.2, kP.same (h.2.1 _ (by decide)) (h.2.1 _ (by decide))⟩
theorem eFr.pI {m k : Nat} {I : mI} {J : mJ} {x : Int32} (h : (20 ≤ k ∧ k ≤ 25) ∨ (29 ≤ k ∧ k ≤ 32)) : eFr m I (va_up I m (va_up (I m) k x)) J J := ⟨fun a ha _ _ _ => am_up_n _ _ ha, fun j h1 h2 h3 h4 => by rw [am_up_s, am_up_n _ _ (by omega)], fun _ _ => rfl, fun _ _ => rfl, kP.same (by rw [am_up_s, am_up_n _ _ (by omega)]) (by rw [am_up_s, am_up_n _ _ (by omega)])⟩
theorem eFr.pA {m k : Nat} {I : mI} {J : mJ} {R : Nat → Int32} (h : k = 20 ∨ k = 21 ∨ k = 22) : eFr m I (va_up I (m + k) R) J J := ⟨fun a h1 h2 h3 h4 => am_up_n _ _ (by omega), fun j h1 h2 h3 h4 => by rw [am_up_n _ _ (by omega)], fun _ _ => rfl, fun _ _ => rfl, kP.same (by rw [am_up_n _ _ (by omega)]) (by rw [am_up_n _ _ (by omega)])⟩
theorem dX10_isGood_0 : decode cX10_isGood 0 = .ok (.aload_n 0, 1) := by decide +kernel
theorem dX10_isGood_1 : decode cX10_isGood 1 = .ok (.getfield 249, 3) := by decide +kernel
theorem dX10_isGood_4 : decode cX10_isGood 4 = .ok (.ifCond .ne 7, 3) := by decide +kernel
theorem dX10_isGood_7 : decode cX10_isGood 7 = .ok (.iconst 1, 1) := by decide +kernel
theorem dX10_isGood_8 : decode cX10_isGood 8 = .ok (.goto 4, 3) := by decide +kernel
theorem dX10_isGood_11 : decode cX10_isGood 11 = .ok (.iconst 0, 1) := by decide +kernel
theorem dX10_isGood_12 : decode cX10_isGood 12 = .ok (.ireturn, 1) := by decide +kernel

set_option maxHeartbeats 4000000 in
set_option maxRecDepth 100000 in
theorem c_good (m : Nat) {n : Nat} {kd : mK} {I : mI} {J : mJ} {P : mP} (hM : kM kd P m) : Ct yX10_isGood cX10_isGood 1 (some .boolean) 1 0 0 [.ref m] n kd I J P (am_is (some (.int (bz (decide (I m 16 = 0))))) n kd I J P) := by
  refine ct_of 0 (by decide +kernel) (Nat.le_of_ble_eq_true rfl) rfl ?_
  by_cases q : I m 16 = 0
  · rw [decide_eq_true q]
    refine r_aload_n dX10_isGood_0 rfl ?_
    refine r_getI dX10_isGood_1 fl_X10_249 rfl (kM_0 hM) ?_
    
    refine r_if_ne (tgt := 11) dX10_isGood_4 (by decide) (fun hz => absurd (show _ from q) hz) (fun _ => ?_)
    refine r_iconst (v := nI 1) dX10_isGood_7 (by decide) ?_
    refine r_goto (tgt := 12) dX10_isGood_8 (by decide) ?_
    refine r_zret rfl dX10_isGood_12 (by first | exact Or.inl rfl | exact Or.inr rfl | assumption) ?_
    exact am_is.mk
  · rw [decide_eq_false q]
    refine r_aload_n dX10_isGood_0 rfl ?_
    refine r_getI dX10_isGood_1 fl_X10_249 rfl (kM_0 hM) ?_
    
    refine r_if_ne (tgt := 11) dX10_isGood_4 (by decide) (fun _ => ?_) (fun hz => absurd hz (show ¬ _ from q))
    refine r_iconst (v := nI 0) dX10_isGood_11 (by decide) ?_
    refine r_zret rfl dX10_isGood_12 (by first | exact Or.inl rfl | exact Or.inr rfl | assumption) ?_
    exact am_is.mk

theorem dX10_wrong_0 : decode cX10_wrong 0 = .ok (.aload_n 0, 1) := by decide +kernel
theorem dX10_wrong_1 : decode cX10_wrong 1 = .ok (.getfield 249, 3) := by decide +kernel
theorem dX10_wrong_4 : decode cX10_wrong 4 = .ok (.ifCond .eq 4, 3) := by decide +kernel
theorem dX10_wrong_7 : decode cX10_wrong 7 = .ok (.return_, 1) := by decide +kernel
theorem dX10_wrong_8 : decode cX10_wrong 8 = .ok (.aload_n 0, 1) := by decide +kernel
theorem dX10_wrong_9 : decode cX10_wrong 9 = .ok (.iload_n 1, 1) := by decide +kernel
theorem dX10_wrong_10 : decode cX10_wrong 10 = .ok (.putfield 249, 3) := by decide +kernel
theorem dX10_wrong_13 : decode cX10_wrong 13 = .ok (.aload_n 0, 1) := by decide +kernel
theorem dX10_wrong_14 : decode cX10_wrong 14 = .ok (.aload_n 0, 1) := by decide +kernel
theorem dX10_wrong_15 : decode cX10_wrong 15 = .ok (.getfield 213, 3) := by decide +kernel
theorem dX10_wrong_18 : decode cX10_wrong 18 = .ok (.putfield 47, 3) := by decide +kernel
theorem dX10_wrong_21 : decode cX10_wrong 21 = .ok (.return_, 1) := by decide +kernel

def wrI (m : Nat) (f : Int32) (I : mI) : mI := if I m 16 = 0 then va_up I m (va_up (va_up (I m) 16 f) 17 (I m 22)) else I
set_option maxHeartbeats 4000000 in
set_option maxRecDepth 100000 in
theorem c_wrong (m : Nat) (f : Int32) {n : Nat} {kd : mK} {I : mI} {J : mJ} {P : mP} (hM : kM kd P m) : Ct yX10_wrong cX10_wrong 2 none 1 0 0 [.ref m, .int f] n kd I J P (am_is none n kd (wrI m f I) J P) := by
  refine ct_of 0 (by decide +kernel) (Nat.le_of_ble_eq_true rfl) rfl ?_
  unfold wrI
  by_cases q : I m 16 = 0
  · rw [if_pos q]
    refine r_aload_n dX10_wrong_0 rfl ?_
    refine r_getI dX10_wrong_1 fl_X10_249 rfl (kM_0 hM) ?_
    try simp (disch := omega) only [am_up_s, am_up_n, am_up_up]
    refine r_if_eq (tgt := 8) dX10_wrong_4 (by decide) (fun _ => ?_) (fun hz => absurd (show _ from q) hz)
    refine r_aload_n dX10_wrong_8 rfl ?_
    refine r_iload_n dX10_wrong_9 rfl ?_
    refine r_putI dX10_wrong_10 fl_X10_249 rfl rfl (kM_0 hM) ?_
    refine r_aload_n dX10_wrong_13 rfl ?_
    refine r_aload_n dX10_wrong_14 rfl ?_
    refine r_getI dX10_wrong_15 fl_X10_213 rfl (kM_0 hM) ?_
    rw [am_up_s, am_up_n _ _ (by decide)]
    refine r_putI dX10_wrong_18 fl_X10_47 rfl rfl (kM_0 hM) ?_
    rw [am_up_s, am_up_up]
    refine r_vret rfl dX10_wrong_21 ?_
    exact am_is.mk
  · rw [if_neg q]
    refine r_aload_n dX10_wrong_0 rfl ?_
    refine r_getI dX10_wrong_1 fl_X10_249 rfl (kM_0 hM) ?_
    try simp (disch := omega) only [am_up_s, am_up_n, am_up_up]
    refine r_if_eq (tgt := 8) dX10_wrong_4 (by decide) (fun hz => absurd hz (show ¬ _ from q)) (fun _ => ?_)
    refine r_vret rfl dX10_wrong_7 ?_
    exact am_is.mk

theorem dX10_isSign_0 : decode cX10_isSign 0 = .ok (.aload_n 0, 1) := by decide +kernel
theorem dX10_isSign_1 : decode cX10_isSign 1 = .ok (.getfield 226, 3) := by decide +kernel
theorem dX10_isSign_4 : decode cX10_isSign 4 = .ok (.iconst 3, 1) := by decide +kernel
theorem dX10_isSign_5 : decode cX10_isSign 5 = .ok (.if_icmp .ne 15, 3) := by decide +kernel
theorem dX10_isSign_8 : decode cX10_isSign 8 = .ok (.aload_n 0, 1) := by decide +kernel
theorem dX10_isSign_9 : decode cX10_isSign 9 = .ok (.getfield 223, 3) := by decide +kernel
theorem dX10_isSign_12 : decode cX10_isSign 12 = .ok (.iload_n 1, 1) := by decide +kernel
theorem dX10_isSign_13 : decode cX10_isSign 13 = .ok (.if_icmp .ne 7, 3) := by decide +kernel
theorem dX10_isSign_16 : decode cX10_isSign 16 = .ok (.iconst 1, 1) := by decide +kernel
theorem dX10_isSign_17 : decode cX10_isSign 17 = .ok (.goto 4, 3) := by decide +kernel
theorem dX10_isSign_20 : decode cX10_isSign 20 = .ok (.iconst 0, 1) := by decide +kernel
theorem dX10_isSign_21 : decode cX10_isSign 21 = .ok (.ireturn, 1) := by decide +kernel

set_option maxHeartbeats 4000000 in
set_option maxRecDepth 100000 in
theorem c_sign (m : Nat) (c : Int32) {n : Nat} {kd : mK} {I : mI} {J : mJ} {P : mP} (hM : kM kd P m) : Ct yX10_isSign cX10_isSign 2 (some .boolean) 1 0 0 [.ref m, .int c] n kd I J P (am_is (some (.int (bz (decide (I m 21 = nI 3) && decide (I m 25 = c))))) n kd I J P) := by
  refine ct_of 0 (by decide +kernel) (Nat.le_of_ble_eq_true rfl) rfl ?_
  by_cases q : I m 21 = nI 3
  · by_cases r : I m 25 = c
    · rw [decide_eq_true q, decide_eq_true r]
      refine r_aload_n dX10_isSign_0 rfl ?_
      refine r_getI dX10_isSign_1 fl_X10_226 rfl (kM_0 hM) ?_
      try simp (disch := omega) only [am_up_s, am_up_n, am_up_up]
      refine r_iconst (v := nI 3) dX10_isSign_4 (by decide) ?_
      refine r_icmp_ne (tgt := 20) dX10_isSign_5 (by decide) (fun hz => absurd (show _ from q) hz) (fun _ => ?_)
      refine r_aload_n dX10_isSign_8 rfl ?_
      refine r_getI dX10_isSign_9 fl_X10_223 rfl (kM_0 hM) ?_
      try simp (disch := omega) only [am_up_s, am_up_n, am_up_up]
      refine r_iload_n dX10_isSign_12 rfl ?_
      refine r_icmp_ne (tgt := 20) dX10_isSign_13 (by decide) (fun hz => absurd (show _ from r) hz) (fun _ => ?_)
      refine r_iconst (v := nI 1) dX10_isSign_16 (by decide) ?_
      refine r_goto (tgt := 21) dX10_isSign_17 (by decide) ?_
      refine r_zret rfl dX10_isSign_21 (by first | exact Or.inl rfl | exact Or.inr rfl | assumption) ?_
      exact am_is.mk
    · rw [decide_eq_true q, decide_eq_false r]
      refine r_aload_n dX10_isSign_0 rfl ?_
      refine r_getI dX10_isSign_1 fl_X10_226 rfl (kM_0 hM) ?_
      try simp (disch := omega) only [am_up_s, am_up_n, am_up_up]
      refine r_iconst (v := nI 3) dX10_isSign_4 (by decide) ?_
      refine r_icmp_ne (tgt := 20) dX10_isSign_5 (by decide) (fun hz => absurd (show _ from q) hz) (fun _ => ?_)
      refine r_aload_n dX10_isSign_8 rfl ?_
      refine r_getI dX10_isSign_9 fl_X10_223 rfl (kM_0 hM) ?_
      try simp (disch := omega) only [am_up_s, am_up_n, am_up_up]
      refine r_iload_n dX10_isSign_12 rfl ?_
      refine r_icmp_ne (tgt := 20) dX10_isSign_13 (by decide) (fun _ => ?_) (fun hz => absurd hz (show ¬ _ from r))
      refine r_iconst (v := nI 0) dX10_isSign_20 (by decide) ?_
      refine r_zret rfl dX10_isSign_21 (by first | exact Or.inl rfl | exact Or.inr rfl | assumption) ?_
      exact am_is.mk
  · rw [decide_eq_false q, Bool.false_and]
    refine r_aload_n dX10_isSign_0 rfl ?_
    refine r_getI dX10_isSign_1 fl_X10_226 rfl (kM_0 hM) ?_
    try simp (disch := omega) only [am_up_s, am_up_n, am_up_up]
    refine r_iconst (v := nI 3) dX10_isSign_4 (by decide) ?_
    refine r_icmp_ne (tgt := 20) dX10_isSign_5 (by decide) (fun _ => ?_) (fun hz => absurd hz (show ¬ _ from q))
    refine r_iconst (v := nI 0) dX10_isSign_20 (by decide) ?_
    refine r_zret rfl dX10_isSign_21 (by first | exact Or.inl rfl | exact Or.inr rfl | assumption) ?_
    exact am_is.mk

theorem dX10_puts_0 : decode cX10_puts 0 = .ok (.aload_n 0, 1) := by decide +kernel
theorem dX10_puts_1 : decode cX10_puts 1 = .ok (.getfield 74, 3) := by decide +kernel
theorem dX10_puts_4 : decode cX10_puts 4 = .ok (.aload_n 0, 1) := by decide +kernel
theorem dX10_puts_5 : decode cX10_puts 5 = .ok (.getfield 275, 3) := by decide +kernel
theorem dX10_puts_8 : decode cX10_puts 8 = .ok (.iload_n 1, 1) := by decide +kernel
theorem dX10_puts_9 : decode cX10_puts 9 = .ok (.iastore, 1) := by decide +kernel
theorem dX10_puts_10 : decode cX10_puts 10 = .ok (.aload_n 0, 1) := by decide +kernel
theorem dX10_puts_11 : decode cX10_puts 11 = .ok (.dup, 1) := by decide +kernel
theorem dX10_puts_12 : decode cX10_puts 12 = .ok (.getfield 275, 3) := by decide +kernel
theorem dX10_puts_15 : decode cX10_puts 15 = .ok (.iconst 1, 1) := by decide +kernel
theorem dX10_puts_16 : decode cX10_puts 16 = .ok (.iadd, 1) := by decide +kernel
theorem dX10_puts_17 : decode cX10_puts 17 = .ok (.putfield 275, 3) := by decide +kernel
theorem dX10_puts_20 : decode cX10_puts 20 = .ok (.return_, 1) := by decide +kernel

def puI (m k : Nat) (x : Int32) (I : mI) : mI := va_up (va_up I (m + 20) (va_up (I (m + 20)) k x)) m (va_up (I m) 30 (nI (k + 1)))
set_option maxHeartbeats 4000000 in
set_option maxRecDepth 100000 in
theorem c_puI (m k : Nat) (x : Int32) {n : Nat} {kd : mK} {I : mI} {J : mJ} {P : mP} (hM : kM kd P m) (hk : I m 30 = nI k) (hl : k < 1300) : Ct yX10_puts cX10_puts 2 none 1 0 0 [.ref m, .int x] n kd I J P (am_is none n kd (puI m k x I) J P) := by
  refine ct_of 0 (by decide +kernel) (Nat.le_of_ble_eq_true rfl) rfl ?_
  refine r_aload_n dX10_puts_0 rfl ?_
  refine r_getR dX10_puts_1 fl_X10_74 rfl (kM_0 hM) (pM_42 hM) ?_
  refine r_aload_n dX10_puts_4 rfl ?_
  refine r_getI dX10_puts_5 fl_X10_275 rfl (kM_0 hM) ?_
  rw [hk]
  refine r_iload_n dX10_puts_8 rfl ?_
  refine r_iast dX10_puts_9 (aM_42 hM) (nI_in8 1300 (by omega) (by decide)) (nI_clamp (by omega)) ?_
  refine r_aload_n dX10_puts_10 rfl ?_
  refine r_dup dX10_puts_11 rfl ?_
  refine r_getI dX10_puts_12 fl_X10_275 rfl (kM_0 hM) ?_
  rw [am_up_n _ _ (by omega), hk]
  refine r_iconst (v := nI 1) dX10_puts_15 (by decide) ?_
  refine r_iadd dX10_puts_16 ?_
  rw [nI_add]
  refine r_putI dX10_puts_17 fl_X10_275 rfl rfl (kM_0 hM) ?_
  rw [am_up_n (b := m) _ _ (by omega)]
  refine r_vret rfl dX10_puts_20 ?_
  exact am_is.mk

theorem dX10_waitsFor_0 : decode cX10_waitsFor 0 = .ok (.aload_n 0, 1) := by decide +kernel
theorem dX10_waitsFor_1 : decode cX10_waitsFor 1 = .ok (.getfield 77, 3) := by decide +kernel
theorem dX10_waitsFor_4 : decode cX10_waitsFor 4 = .ok (.aload_n 0, 1) := by decide +kernel
theorem dX10_waitsFor_5 : decode cX10_waitsFor 5 = .ok (.getfield 278, 3) := by decide +kernel
theorem dX10_waitsFor_8 : decode cX10_waitsFor 8 = .ok (.iload_n 1, 1) := by decide +kernel
theorem dX10_waitsFor_9 : decode cX10_waitsFor 9 = .ok (.iastore, 1) := by decide +kernel
theorem dX10_waitsFor_10 : decode cX10_waitsFor 10 = .ok (.aload_n 0, 1) := by decide +kernel
theorem dX10_waitsFor_11 : decode cX10_waitsFor 11 = .ok (.dup, 1) := by decide +kernel
theorem dX10_waitsFor_12 : decode cX10_waitsFor 12 = .ok (.getfield 278, 3) := by decide +kernel
theorem dX10_waitsFor_15 : decode cX10_waitsFor 15 = .ok (.iconst 1, 1) := by decide +kernel
theorem dX10_waitsFor_16 : decode cX10_waitsFor 16 = .ok (.iadd, 1) := by decide +kernel
theorem dX10_waitsFor_17 : decode cX10_waitsFor 17 = .ok (.putfield 278, 3) := by decide +kernel
theorem dX10_waitsFor_20 : decode cX10_waitsFor 20 = .ok (.return_, 1) := by decide +kernel

def waI (m k : Nat) (x : Int32) (I : mI) : mI := va_up (va_up I (m + 21) (va_up (I (m + 21)) k x)) m (va_up (I m) 31 (nI (k + 1)))
set_option maxHeartbeats 4000000 in
set_option maxRecDepth 100000 in
theorem c_waI (m k : Nat) (x : Int32) {n : Nat} {kd : mK} {I : mI} {J : mJ} {P : mP} (hM : kM kd P m) (hk : I m 31 = nI k) (hl : k < 650) : Ct yX10_waitsFor cX10_waitsFor 2 none 1 0 0 [.ref m, .int x] n kd I J P (am_is none n kd (waI m k x I) J P) := by
  refine ct_of 0 (by decide +kernel) (Nat.le_of_ble_eq_true rfl) rfl ?_
  refine r_aload_n dX10_waitsFor_0 rfl ?_
  refine r_getR dX10_waitsFor_1 fl_X10_77 rfl (kM_0 hM) (pM_43 hM) ?_
  refine r_aload_n dX10_waitsFor_4 rfl ?_
  refine r_getI dX10_waitsFor_5 fl_X10_278 rfl (kM_0 hM) ?_
  rw [hk]
  refine r_iload_n dX10_waitsFor_8 rfl ?_
  refine r_iast dX10_waitsFor_9 (aM_43 hM) (nI_in8 650 (by omega) (by decide)) (nI_clamp (by omega)) ?_
  refine r_aload_n dX10_waitsFor_10 rfl ?_
  refine r_dup dX10_waitsFor_11 rfl ?_
  refine r_getI dX10_waitsFor_12 fl_X10_278 rfl (kM_0 hM) ?_
  rw [am_up_n _ _ (by omega), hk]
  refine r_iconst (v := nI 1) dX10_waitsFor_15 (by decide) ?_
  refine r_iadd dX10_waitsFor_16 ?_
  rw [nI_add]
  refine r_putI dX10_waitsFor_17 fl_X10_278 rfl rfl (kM_0 hM) ?_
  rw [am_up_n (b := m) _ _ (by omega)]
  refine r_vret rfl dX10_waitsFor_20 ?_
  exact am_is.mk

theorem dX10_isOpen_0 : decode cX10_isOpen 0 = .ok (.iload_n 0, 1) := by decide +kernel
theorem dX10_isOpen_1 : decode cX10_isOpen 1 = .ok (.bipush 14, 2) := by decide +kernel
theorem dX10_isOpen_3 : decode cX10_isOpen 3 = .ok (.if_icmp .lt 7, 3) := by decide +kernel
theorem dX10_isOpen_6 : decode cX10_isOpen 6 = .ok (.iconst 1, 1) := by decide +kernel
theorem dX10_isOpen_7 : decode cX10_isOpen 7 = .ok (.goto 4, 3) := by decide +kernel
theorem dX10_isOpen_10 : decode cX10_isOpen 10 = .ok (.iconst 0, 1) := by decide +kernel
theorem dX10_isOpen_11 : decode cX10_isOpen 11 = .ok (.ireturn, 1) := by decide +kernel

set_option maxHeartbeats 4000000 in
set_option maxRecDepth 100000 in
theorem c_isOpen (x : Int32) {n : Nat} {kd : mK} {I : mI} {J : mJ} {P : mP} : Ct yX10_isOpen cX10_isOpen 1 (some .boolean) 1 0 0 [.int x] n kd I J P (am_is (some (.int (bz (decide (nI 14 ≤ x))))) n kd I J P) := by
  refine ct_of 0 (by decide +kernel) (Nat.le_of_ble_eq_true rfl) rfl ?_
  by_cases q : nI 14 ≤ x
  · rw [decide_eq_true q]
    refine r_iload_n dX10_isOpen_0 rfl ?_
    refine r_bipush (v := nI 14) dX10_isOpen_1 (by decide) ?_
    refine r_icmp_lt (tgt := 10) dX10_isOpen_3 (by decide) (fun hz => absurd hz (show ¬ _ from (fun z => absurd (Int32.not_lt.mpr q) (fun y => y z)))) (fun _ => ?_)
    refine r_iconst (v := nI 1) dX10_isOpen_6 (by decide) ?_
    refine r_goto (tgt := 11) dX10_isOpen_7 (by decide) ?_
    refine r_zret rfl dX10_isOpen_11 (by first | exact Or.inl rfl | exact Or.inr rfl | assumption) ?_
    exact am_is.mk
  · rw [decide_eq_false q]
    refine r_iload_n dX10_isOpen_0 rfl ?_
    refine r_bipush (v := nI 14) dX10_isOpen_1 (by decide) ?_
    refine r_icmp_lt (tgt := 10) dX10_isOpen_3 (by decide) (fun _ => ?_) (fun hz => absurd (show _ from (Int32.not_le.mp q)) hz)
    refine r_iconst (v := nI 0) dX10_isOpen_10 (by decide) ?_
    refine r_zret rfl dX10_isOpen_11 (by first | exact Or.inl rfl | exact Or.inr rfl | assumption) ?_
    exact am_is.mk

theorem dX10_strength_0 : decode cX10_strength 0 = .ok (.iload_n 0, 1) := by decide +kernel
theorem dX10_strength_1 : decode cX10_strength 1 = .ok (.iconst 5, 1) := by decide +kernel
theorem dX10_strength_2 : decode cX10_strength 2 = .ok (.if_icmp .ne 7, 3) := by decide +kernel
theorem dX10_strength_5 : decode cX10_strength 5 = .ok (.iconst 1, 1) := by decide +kernel
theorem dX10_strength_6 : decode cX10_strength 6 = .ok (.goto 55, 3) := by decide +kernel
theorem dX10_strength_9 : decode cX10_strength 9 = .ok (.iload_n 0, 1) := by decide +kernel
theorem dX10_strength_10 : decode cX10_strength 10 = .ok (.iconst 4, 1) := by decide +kernel
theorem dX10_strength_11 : decode cX10_strength 11 = .ok (.if_icmp .ne 7, 3) := by decide +kernel
theorem dX10_strength_14 : decode cX10_strength 14 = .ok (.iconst 2, 1) := by decide +kernel
theorem dX10_strength_15 : decode cX10_strength 15 = .ok (.goto 46, 3) := by decide +kernel
theorem dX10_strength_18 : decode cX10_strength 18 = .ok (.iload_n 0, 1) := by decide +kernel
theorem dX10_strength_19 : decode cX10_strength 19 = .ok (.iconst 3, 1) := by decide +kernel
theorem dX10_strength_20 : decode cX10_strength 20 = .ok (.if_icmp .ne 7, 3) := by decide +kernel
theorem dX10_strength_23 : decode cX10_strength 23 = .ok (.iconst 3, 1) := by decide +kernel
theorem dX10_strength_24 : decode cX10_strength 24 = .ok (.goto 37, 3) := by decide +kernel
theorem dX10_strength_27 : decode cX10_strength 27 = .ok (.iload_n 0, 1) := by decide +kernel
theorem dX10_strength_28 : decode cX10_strength 28 = .ok (.bipush 6, 2) := by decide +kernel
theorem dX10_strength_30 : decode cX10_strength 30 = .ok (.if_icmp .eq 9, 3) := by decide +kernel
theorem dX10_strength_33 : decode cX10_strength 33 = .ok (.iload_n 0, 1) := by decide +kernel
theorem dX10_strength_34 : decode cX10_strength 34 = .ok (.bipush 7, 2) := by decide +kernel
theorem dX10_strength_36 : decode cX10_strength 36 = .ok (.if_icmp .ne 7, 3) := by decide +kernel
theorem dX10_strength_39 : decode cX10_strength 39 = .ok (.iconst 4, 1) := by decide +kernel
theorem dX10_strength_40 : decode cX10_strength 40 = .ok (.goto 21, 3) := by decide +kernel
theorem dX10_strength_43 : decode cX10_strength 43 = .ok (.iload_n 0, 1) := by decide +kernel
theorem dX10_strength_44 : decode cX10_strength 44 = .ok (.bipush 8, 2) := by decide +kernel
theorem dX10_strength_46 : decode cX10_strength 46 = .ok (.if_icmp .eq 9, 3) := by decide +kernel
theorem dX10_strength_49 : decode cX10_strength 49 = .ok (.iload_n 0, 1) := by decide +kernel
theorem dX10_strength_50 : decode cX10_strength 50 = .ok (.bipush 9, 2) := by decide +kernel
theorem dX10_strength_52 : decode cX10_strength 52 = .ok (.if_icmp .ne 7, 3) := by decide +kernel
theorem dX10_strength_55 : decode cX10_strength 55 = .ok (.iconst 5, 1) := by decide +kernel
theorem dX10_strength_56 : decode cX10_strength 56 = .ok (.goto 5, 3) := by decide +kernel
theorem dX10_strength_59 : decode cX10_strength 59 = .ok (.bipush 6, 2) := by decide +kernel
theorem dX10_strength_61 : decode cX10_strength 61 = .ok (.ireturn, 1) := by decide +kernel

def strI (x : Int32) : Nat := if x = nI 5 then 1 else if x = nI 4 then 2 else if x = nI 3 then 3 else if x = nI 6 then 4 else if x = nI 7 then 4 else if x = nI 8 then 5 else if x = nI 9 then 5 else 6
set_option maxHeartbeats 4000000 in
set_option maxRecDepth 100000 in
theorem c_strength (x : Int32) {n : Nat} {kd : mK} {I : mI} {J : mJ} {P : mP} : Ct yX10_strength cX10_strength 1 (some .int) 1 0 0 [.int x] n kd I J P (am_is (some (.int (nI (strI x)))) n kd I J P) := by
  refine ct_of 0 (by decide +kernel) (Nat.le_of_ble_eq_true rfl) rfl ?_
  unfold strI
  by_cases q5 : x = nI 5
  · rw [if_pos q5]
    refine r_iload_n dX10_strength_0 rfl ?_
    refine r_iconst (v := nI 5) dX10_strength_1 (by decide) ?_
    refine r_icmp_ne (tgt := 9) dX10_strength_2 (by decide) (fun hz => absurd (show _ from q5) hz) (fun _ => ?_)
    refine r_iconst (v := nI 1) dX10_strength_5 (by decide) ?_
    refine r_goto (tgt := 61) dX10_strength_6 (by decide) ?_
    refine r_iret rfl dX10_strength_61 ?_
    exact am_is.mk
  rw [if_neg q5]
  by_cases q4 : x = nI 4
  · rw [if_pos q4]
    refine r_iload_n dX10_strength_0 rfl ?_
    refine r_iconst (v := nI 5) dX10_strength_1 (by decide) ?_
    refine r_icmp_ne (tgt := 9) dX10_strength_2 (by decide) (fun _ => ?_) (fun hz => absurd hz (show ¬ _ from q5))
    refine r_iload_n dX10_strength_9 rfl ?_
    refine r_iconst (v := nI 4) dX10_strength_10 (by decide) ?_
    refine r_icmp_ne (tgt := 18) dX10_strength_11 (by decide) (fun hz => absurd (show _ from q4) hz) (fun _ => ?_)
    refine r_iconst (v := nI 2) dX10_strength_14 (by decide) ?_
    refine r_goto (tgt := 61) dX10_strength_15 (by decide) ?_
    refine r_iret rfl dX10_strength_61 ?_
    exact am_is.mk
  rw [if_neg q4]
  by_cases q3 : x = nI 3
  · rw [if_pos q3]
    refine r_iload_n dX10_strength_0 rfl ?_
    refine r_iconst (v := nI 5) dX10_strength_1 (by decide) ?_
    refine r_icmp_ne (tgt := 9) dX10_strength_2 (by decide) (fun _ => ?_) (fun hz => absurd hz (show ¬ _ from q5))
    refine r_iload_n dX10_strength_9 rfl ?_
    refine r_iconst (v := nI 4) dX10_strength_10 (by decide) ?_
    refine r_icmp_ne (tgt := 18) dX10_strength_11 (by decide) (fun _ => ?_) (fun hz => absurd hz (show ¬ _ from q4))
    refine r_iload_n dX10_strength_18 rfl ?_
    refine r_iconst (v := nI 3) dX10_strength_19 (by decide) ?_
    refine r_icmp_ne (tgt := 27) dX10_strength_20 (by decide) (fun hz => absurd (show _ from q3) hz) (fun _ => ?_)
    refine r_iconst (v := nI 3) dX10_strength_23 (by decide) ?_
    refine r_goto (tgt := 61) dX10_strength_24 (by decide) ?_
    refine r_iret rfl dX10_strength_61 ?_
    exact am_is.mk
  rw [if_neg q3]
  by_cases q6 : x = nI 6
  · rw [if_pos q6]
    refine r_iload_n dX10_strength_0 rfl ?_
    refine r_iconst (v := nI 5) dX10_strength_1 (by decide) ?_
    refine r_icmp_ne (tgt := 9) dX10_strength_2 (by decide) (fun _ => ?_) (fun hz => absurd hz (show ¬ _ from q5))
    refine r_iload_n dX10_strength_9 rfl ?_
    refine r_iconst (v := nI 4) dX10_strength_10 (by decide) ?_
    refine r_icmp_ne (tgt := 18) dX10_strength_11 (by decide) (fun _ => ?_) (fun hz => absurd hz (show ¬ _ from q4))
    refine r_iload_n dX10_strength_18 rfl ?_
    refine r_iconst (v := nI 3) dX10_strength_19 (by decide) ?_
    refine r_icmp_ne (tgt := 27) dX10_strength_20 (by decide) (fun _ => ?_) (fun hz => absurd hz (show ¬ _ from q3))
    refine r_iload_n dX10_strength_27 rfl ?_
    refine r_bipush (v := nI 6) dX10_strength_28 (by decide) ?_
    refine r_icmp_eq (tgt := 39) dX10_strength_30 (by decide) (fun _ => ?_) (fun hz => absurd (show _ from q6) hz)
    refine r_iconst (v := nI 4) dX10_strength_39 (by decide) ?_
    refine r_goto (tgt := 61) dX10_strength_40 (by decide) ?_
    refine r_iret rfl dX10_strength_61 ?_
    exact am_is.mk
  rw [if_neg q6]
  by_cases q7 : x = nI 7
  · rw [if_pos q7]
    refine r_iload_n dX10_strength_0 rfl ?_
    refine r_iconst (v := nI 5) dX10_strength_1 (by decide) ?_
    refine r_icmp_ne (tgt := 9) dX10_strength_2 (by decide) (fun _ => ?_) (fun hz => absurd hz (show ¬ _ from q5))
    refine r_iload_n dX10_strength_9 rfl ?_
    refine r_iconst (v := nI 4) dX10_strength_10 (by decide) ?_
    refine r_icmp_ne (tgt := 18) dX10_strength_11 (by decide) (fun _ => ?_) (fun hz => absurd hz (show ¬ _ from q4))
    refine r_iload_n dX10_strength_18 rfl ?_
    refine r_iconst (v := nI 3) dX10_strength_19 (by decide) ?_
    refine r_icmp_ne (tgt := 27) dX10_strength_20 (by decide) (fun _ => ?_) (fun hz => absurd hz (show ¬ _ from q3))
    refine r_iload_n dX10_strength_27 rfl ?_
    refine r_bipush (v := nI 6) dX10_strength_28 (by decide) ?_
    refine r_icmp_eq (tgt := 39) dX10_strength_30 (by decide) (fun hz => absurd hz (show ¬ _ from q6)) (fun _ => ?_)
    refine r_iload_n dX10_strength_33 rfl ?_
    refine r_bipush (v := nI 7) dX10_strength_34 (by decide) ?_
    refine r_icmp_ne (tgt := 43) dX10_strength_36 (by decide) (fun hz => absurd (show _ from q7) hz) (fun _ => ?_)
    refine r_iconst (v := nI 4) dX10_strength_39 (by decide) ?_
    refine r_goto (tgt := 61) dX10_strength_40 (by decide) ?_
    refine r_iret rfl dX10_strength_61 ?_
    exact am_is.mk
  rw [if_neg q7]
  by_cases q8 : x = nI 8
  · rw [if_pos q8]
    refine r_iload_n dX10_strength_0 rfl ?_
    refine r_iconst (v := nI 5) dX10_strength_1 (by decide) ?_
    refine r_icmp_ne (tgt := 9) dX10_strength_2 (by decide) (fun _ => ?_) (fun hz => absurd hz (show ¬ _ from q5))
    refine r_iload_n dX10_strength_9 rfl ?_
    refine r_iconst (v := nI 4) dX10_strength_10 (by decide) ?_
    refine r_icmp_ne (tgt := 18) dX10_strength_11 (by decide) (fun _ => ?_) (fun hz => absurd hz (show ¬ _ from q4))
    refine r_iload_n dX10_strength_18 rfl ?_
    refine r_iconst (v := nI 3) dX10_strength_19 (by decide) ?_
    refine r_icmp_ne (tgt := 27) dX10_strength_20 (by decide) (fun _ => ?_) (fun hz => absurd hz (show ¬ _ from q3))
    refine r_iload_n dX10_strength_27 rfl ?_
    refine r_bipush (v := nI 6) dX10_strength_28 (by decide) ?_
    refine r_icmp_eq (tgt := 39) dX10_strength_30 (by decide) (fun hz => absurd hz (show ¬ _ from q6)) (fun _ => ?_)
    refine r_iload_n dX10_strength_33 rfl ?_
    refine r_bipush (v := nI 7) dX10_strength_34 (by decide) ?_
    refine r_icmp_ne (tgt := 43) dX10_strength_36 (by decide) (fun _ => ?_) (fun hz => absurd hz (show ¬ _ from q7))
    refine r_iload_n dX10_strength_43 rfl ?_
    refine r_bipush (v := nI 8) dX10_strength_44 (by decide) ?_
    refine r_icmp_eq (tgt := 55) dX10_strength_46 (by decide) (fun _ => ?_) (fun hz => absurd (show _ from q8) hz)
    refine r_iconst (v := nI 5) dX10_strength_55 (by decide) ?_
    refine r_goto (tgt := 61) dX10_strength_56 (by decide) ?_
    refine r_iret rfl dX10_strength_61 ?_
    exact am_is.mk
  rw [if_neg q8]
  by_cases q9 : x = nI 9
  · rw [if_pos q9]
    refine r_iload_n dX10_strength_0 rfl ?_
    refine r_iconst (v := nI 5) dX10_strength_1 (by decide) ?_
    refine r_icmp_ne (tgt := 9) dX10_strength_2 (by decide) (fun _ => ?_) (fun hz => absurd hz (show ¬ _ from q5))
    refine r_iload_n dX10_strength_9 rfl ?_
    refine r_iconst (v := nI 4) dX10_strength_10 (by decide) ?_
    refine r_icmp_ne (tgt := 18) dX10_strength_11 (by decide) (fun _ => ?_) (fun hz => absurd hz (show ¬ _ from q4))
    refine r_iload_n dX10_strength_18 rfl ?_
    refine r_iconst (v := nI 3) dX10_strength_19 (by decide) ?_
    refine r_icmp_ne (tgt := 27) dX10_strength_20 (by decide) (fun _ => ?_) (fun hz => absurd hz (show ¬ _ from q3))
    refine r_iload_n dX10_strength_27 rfl ?_
    refine r_bipush (v := nI 6) dX10_strength_28 (by decide) ?_
    refine r_icmp_eq (tgt := 39) dX10_strength_30 (by decide) (fun hz => absurd hz (show ¬ _ from q6)) (fun _ => ?_)
    refine r_iload_n dX10_strength_33 rfl ?_
    refine r_bipush (v := nI 7) dX10_strength_34 (by decide) ?_
    refine r_icmp_ne (tgt := 43) dX10_strength_36 (by decide) (fun _ => ?_) (fun hz => absurd hz (show ¬ _ from q7))
    refine r_iload_n dX10_strength_43 rfl ?_
    refine r_bipush (v := nI 8) dX10_strength_44 (by decide) ?_
    refine r_icmp_eq (tgt := 55) dX10_strength_46 (by decide) (fun hz => absurd hz (show ¬ _ from q8)) (fun _ => ?_)
    refine r_iload_n dX10_strength_49 rfl ?_
    refine r_bipush (v := nI 9) dX10_strength_50 (by decide) ?_
    refine r_icmp_ne (tgt := 59) dX10_strength_52 (by decide) (fun hz => absurd (show _ from q9) hz) (fun _ => ?_)
    refine r_iconst (v := nI 5) dX10_strength_55 (by decide) ?_
    refine r_goto (tgt := 61) dX10_strength_56 (by decide) ?_
    refine r_iret rfl dX10_strength_61 ?_
    exact am_is.mk
  rw [if_neg q9]
  refine r_iload_n dX10_strength_0 rfl ?_
  refine r_iconst (v := nI 5) dX10_strength_1 (by decide) ?_
  refine r_icmp_ne (tgt := 9) dX10_strength_2 (by decide) (fun _ => ?_) (fun hz => absurd hz (show ¬ _ from q5))
  refine r_iload_n dX10_strength_9 rfl ?_
  refine r_iconst (v := nI 4) dX10_strength_10 (by decide) ?_
  refine r_icmp_ne (tgt := 18) dX10_strength_11 (by decide) (fun _ => ?_) (fun hz => absurd hz (show ¬ _ from q4))
  refine r_iload_n dX10_strength_18 rfl ?_
  refine r_iconst (v := nI 3) dX10_strength_19 (by decide) ?_
  refine r_icmp_ne (tgt := 27) dX10_strength_20 (by decide) (fun _ => ?_) (fun hz => absurd hz (show ¬ _ from q3))
  refine r_iload_n dX10_strength_27 rfl ?_
  refine r_bipush (v := nI 6) dX10_strength_28 (by decide) ?_
  refine r_icmp_eq (tgt := 39) dX10_strength_30 (by decide) (fun hz => absurd hz (show ¬ _ from q6)) (fun _ => ?_)
  refine r_iload_n dX10_strength_33 rfl ?_
  refine r_bipush (v := nI 7) dX10_strength_34 (by decide) ?_
  refine r_icmp_ne (tgt := 43) dX10_strength_36 (by decide) (fun _ => ?_) (fun hz => absurd hz (show ¬ _ from q7))
  refine r_iload_n dX10_strength_43 rfl ?_
  refine r_bipush (v := nI 8) dX10_strength_44 (by decide) ?_
  refine r_icmp_eq (tgt := 55) dX10_strength_46 (by decide) (fun hz => absurd hz (show ¬ _ from q8)) (fun _ => ?_)
  refine r_iload_n dX10_strength_49 rfl ?_
  refine r_bipush (v := nI 9) dX10_strength_50 (by decide) ?_
  refine r_icmp_ne (tgt := 59) dX10_strength_52 (by decide) (fun _ => ?_) (fun hz => absurd hz (show ¬ _ from q9))
  refine r_bipush (v := nI 6) dX10_strength_59 (by decide) ?_
  refine r_iret rfl dX10_strength_61 ?_
  exact am_is.mk

theorem strI_op : ∀ x, x < 9 → strI (opI (20003 + x)) = stN (20003 + x) ∧ ¬ nI 14 ≤ opI (20003 + x) := by decide
theorem op_open {x : Nat} (h : x = 0 ∨ (20003 ≤ x ∧ x < 20012)) : decide (nI 14 ≤ opI x) = decide (x = 0) := by
  rcases h with h | h
  · subst h; decide
  · have := (strI_op (x - 20003) (by omega)).2
    rw [show 20003 + (x - 20003) = x by omega] at this
    rw [decide_eq_false this, decide_eq_false (show ¬ x = 0 by omega)]
theorem op_str {x : Nat} (h : 20003 ≤ x ∧ x < 20012) : strI (opI x) = stN x := by
  have := (strI_op (x - 20003) (by omega)).1
  rw [show 20003 + (x - 20003) = x by omega] at this
  exact this
theorem stN_6 (x : Nat) : stN x ≤ 6 ∧ 1 ≤ stN x := by
  unfold stN
  by_cases a : x = 20011
  · rw [if_pos a]; decide
  rw [if_neg a]
  by_cases b : x = 20010
  · rw [if_pos b]; decide
  rw [if_neg b]
  by_cases c : x = 20003
  · rw [if_pos c]; decide
  rw [if_neg c]
  by_cases d : x = 20008 ∨ x = 20009
  · rw [if_pos d]; decide
  rw [if_neg d]
  by_cases e : x = 20004 ∨ x = 20005
  · rw [if_pos e]; decide
  · rw [if_neg e]; decide

/-! ONE CALL ON NEW OBJECTS: what the class answers, the reference answers -/
def st0 (o n : Nat) (kd : mK) (I : mI) (J : mJ) (P : mP) : Prop := fsC o n kd I J P ∧ fsM (o + 69) kd I J P ∧ kd (o + 125) = some (4, 1) ∧ o < 1000
theorem MT_le : ∀ e ∈ MT, e.2.1 ≤ 55 := by decide
theorem fsM.fr {m : Nat} {kd kd' : mK} {I I' : mI} {J J' : mJ} {P P' : mP} (h : fsM m kd I J P) (hf : ∀ a, m ≤ a → a ≤ m + 55 → kd' a = kd a ∧ I' a = I a ∧ J' a = J a ∧ P' a = P a) : fsM m kd' I' J' P' := by
  obtain ⟨⟨h1, h2⟩, h3, h4⟩ := h
  refine ⟨⟨by rw [(hf m (by omega) (by omega)).1]; exact h1, fun e he => ?_⟩, by rw [(hf m (by omega) (by omega)).2.1]; exact h3, fun i a b => ?_⟩
  · have := MT_le e he
    rw [(hf m (by omega) (by omega)).2.2.2, (hf (m + e.2.1) (by omega) (by omega)).1]
    exact h2 e he
  · rw [(hf (m + i) (by omega) (by omega)).2.1, (hf (m + i) (by omega) (by omega)).2.2.1]
    exact h4 i a b
theorem pC.sm {o n n' : Nat} {kd kd' : mK} {I I' : mI} {J J' : mJ} {P P' : mP} {v y : Option Value ⊕ String} (h : y = v ∧ n' = n ∧ kd' = kd ∧ I' = I ∧ J' = J ∧ P' = P) : pC o n kd I J P v y n' kd' I' J' P' := by
  obtain ⟨rfl, rfl, rfl, rfl, rfl, rfl⟩ := h
  exact pC.eq
theorem pR.sm {m n n' k : Nat} {kd kd' : mK} {I I' : mI} {J J' : mJ} {P P' : mP} {v : Option Value} {y : Option Value ⊕ String} (h : am_is v n kd (va_up I m (va_up (I m) 0 (nI k))) J P y n' kd' I' J' P') : pR m n kd I J P v k y n' kd' I' J' P' := by
  obtain ⟨h0, rfl, rfl, rfl, rfl, rfl⟩ := h
  exact ⟨h0, rfl, rfl, rfl, by rw [am_up_s, am_up_s], rfl⟩
set_option maxHeartbeats 4000000 in
set_option maxRecDepth 100000 in
theorem op_house (o : Nat) (a0 : Int32) (a1 : Int32) {n : Nat} {kd : mK} {I : mI} {J : mJ} {P : mP} (h : st0 o n kd I J P) : ∃ (k d2 mc ms d3 : Nat) (v w : Int32), (k ≤ 2 ∧ d2 ≤ 64 ∧ mc ≤ 42 ∧ ms ≤ 409612 ∧ d3 ≤ 64 ∧ (k = 0 → v = w)) ∧ CtW [(0, 10, 13, 18)] yL_house cL_house 5 (some .int) d2 mc ms [.ref o, .int a0, .int a1, .ref (o + 125)] n kd I J P (pWr o n kd I J P k v.toInt64) ∧ ∀ (n' : Nat) (kd' : mK) (I' : mI) (J' : mJ) (P' : mP), fsM (o + 69) kd' I' J' P' → Ct yX10_house cX10_house 3 (some .int) d3 0 0 [.ref (o + 69), .int a0, .int a1] n' kd' I' J' P' (pR (o + 69) n' kd' I' J' P' (some (.int w)) k) := by
  obtain ⟨hF, hM0, hout, hsm⟩ := h
  have hF0 := hF
  obtain ⟨hX, hO, h12, hz, hn, f3, f13, f23, f29, f35, f41, f47, f56, f58, f61, f66, f67, f48⟩ := hF
  have hX0 := hX
  obtain ⟨⟨c0, c1, c2⟩, ⟨s3, s13⟩, ⟨l23, l29, l35⟩, ⟨q41, a47, g56, w58, r61, d66, p67⟩, ⟨e0, e3, e8, e10, e12, e13, e14, e15, e16, e17⟩, ⟨e4, e5, e6, e7⟩, hbs, hfl, ho⟩ := hX
  exact ⟨1, 10, 1, 6, 3, 0, nI 0, ⟨by decide, by decide, by decide, by decide, by decide, fun q => absurd q (by decide)⟩, w_house_1 o a0 a1 _ ((n_X9_house o (o + 3) a0 a1 c0 e4 s3.1 (by rw [f3.1]; rfl)).mono (fun _ _ _ _ _ _ hx => pC.sm hx)) c0 hout (by omega), fun n' kd' I' J' P' hF' => (n_X10_house (o + 69) a0 a1 hF'.1 (by rw [hF'.2.1]; rfl)).mono (fun _ _ _ _ _ _ hx => pR.sm hx)⟩
set_option maxHeartbeats 4000000 in
set_option maxRecDepth 100000 in
theorem op_become (o : Nat) (a0 : Int32) (a1 : Int32) (a2 : Int32) {n : Nat} {kd : mK} {I : mI} {J : mJ} {P : mP} (h : st0 o n kd I J P) : ∃ (k d2 mc ms d3 : Nat) (v w : Int32), (k ≤ 2 ∧ d2 ≤ 64 ∧ mc ≤ 42 ∧ ms ≤ 409612 ∧ d3 ≤ 64 ∧ (k = 0 → v = w)) ∧ CtW [(0, 12, 15, 18)] yL_become cL_become 6 (some .int) d2 mc ms [.ref o, .int a0, .int a1, .int a2, .ref (o + 125)] n kd I J P (pWr o n kd I J P k v.toInt64) ∧ ∀ (n' : Nat) (kd' : mK) (I' : mI) (J' : mJ) (P' : mP), fsM (o + 69) kd' I' J' P' → Ct yX10_become cX10_become 5 (some .int) d3 0 0 [.ref (o + 69), .int a0, .int a1, .int a2] n' kd' I' J' P' (pR (o + 69) n' kd' I' J' P' (some (.int w)) k) := by
  obtain ⟨hF, hM0, hout, hsm⟩ := h
  have hF0 := hF
  obtain ⟨hX, hO, h12, hz, hn, f3, f13, f23, f29, f35, f41, f47, f56, f58, f61, f66, f67, f48⟩ := hF
  have hX0 := hX
  obtain ⟨⟨c0, c1, c2⟩, ⟨s3, s13⟩, ⟨l23, l29, l35⟩, ⟨q41, a47, g56, w58, r61, d66, p67⟩, ⟨e0, e3, e8, e10, e12, e13, e14, e15, e16, e17⟩, ⟨e4, e5, e6, e7⟩, hbs, hfl, ho⟩ := hX
  exact ⟨1, 10, 1, 6, 3, 0, nI 0, ⟨by decide, by decide, by decide, by decide, by decide, fun q => absurd q (by decide)⟩, w_become_1 o a0 a1 a2 _ ((n_X9_become o (o + 3) a0 a1 a2 c0 e4 s3.1 (by rw [f3.1]; rfl)).mono (fun _ _ _ _ _ _ hx => pC.sm hx)) c0 hout (by omega), fun n' kd' I' J' P' hF' => (n_X10_become (o + 69) a0 a1 a2 hF'.1 (by rw [hF'.2.1]; rfl)).mono (fun _ _ _ _ _ _ hx => pR.sm hx)⟩
set_option maxHeartbeats 4000000 in
set_option maxRecDepth 100000 in
theorem op_letter (o : Nat) (a0 : Int32) (a1 : Int32) {n : Nat} {kd : mK} {I : mI} {J : mJ} {P : mP} (h : st0 o n kd I J P) : ∃ (k d2 mc ms d3 : Nat) (v w : Int32), (k ≤ 2 ∧ d2 ≤ 64 ∧ mc ≤ 42 ∧ ms ≤ 409612 ∧ d3 ≤ 64 ∧ (k = 0 → v = w)) ∧ CtW [(0, 10, 13, 18)] yL_letter cL_letter 5 (some .int) d2 mc ms [.ref o, .int a0, .int a1, .ref (o + 125)] n kd I J P (pWr o n kd I J P k v.toInt64) ∧ ∀ (n' : Nat) (kd' : mK) (I' : mI) (J' : mJ) (P' : mP), fsM (o + 69) kd' I' J' P' → Ct yX10_letter cX10_letter 3 (some .int) d3 0 0 [.ref (o + 69), .int a0, .int a1] n' kd' I' J' P' (pR (o + 69) n' kd' I' J' P' (some (.int w)) k) := by
  obtain ⟨hF, hM0, hout, hsm⟩ := h
  have hF0 := hF
  obtain ⟨hX, hO, h12, hz, hn, f3, f13, f23, f29, f35, f41, f47, f56, f58, f61, f66, f67, f48⟩ := hF
  have hX0 := hX
  obtain ⟨⟨c0, c1, c2⟩, ⟨s3, s13⟩, ⟨l23, l29, l35⟩, ⟨q41, a47, g56, w58, r61, d66, p67⟩, ⟨e0, e3, e8, e10, e12, e13, e14, e15, e16, e17⟩, ⟨e4, e5, e6, e7⟩, hbs, hfl, ho⟩ := hX
  exact ⟨1, 10, 1, 6, 3, 0, nI 0, ⟨by decide, by decide, by decide, by decide, by decide, fun q => absurd q (by decide)⟩, w_letter_1 o a0 a1 _ ((n_X9_letter o (o + 3) a0 a1 c0 e4 s3.1 (by rw [f3.1]; rfl)).mono (fun _ _ _ _ _ _ hx => pC.sm hx)) c0 hout (by omega), fun n' kd' I' J' P' hF' => (n_X10_letter (o + 69) a0 a1 hF'.1 (by rw [hF'.2.1]; rfl)).mono (fun _ _ _ _ _ _ hx => pR.sm hx)⟩
set_option maxHeartbeats 4000000 in
set_option maxRecDepth 100000 in
theorem op_number (o : Nat) (a0 : Int32) (a1 : Int32) {n : Nat} {kd : mK} {I : mI} {J : mJ} {P : mP} (h : st0 o n kd I J P) : ∃ (k d2 mc ms d3 : Nat) (v w : Int32), (k ≤ 2 ∧ d2 ≤ 64 ∧ mc ≤ 42 ∧ ms ≤ 409612 ∧ d3 ≤ 64 ∧ (k = 0 → v = w)) ∧ CtW [(0, 10, 13, 18)] yL_number cL_number 5 (some .int) d2 mc ms [.ref o, .int a0, .int a1, .ref (o + 125)] n kd I J P (pWr o n kd I J P k v.toInt64) ∧ ∀ (n' : Nat) (kd' : mK) (I' : mI) (J' : mJ) (P' : mP), fsM (o + 69) kd' I' J' P' → Ct yX10_number cX10_number 4 (some .int) d3 0 0 [.ref (o + 69), .int a0, .int a1] n' kd' I' J' P' (pR (o + 69) n' kd' I' J' P' (some (.int w)) k) := by
  obtain ⟨hF, hM0, hout, hsm⟩ := h
  have hF0 := hF
  obtain ⟨hX, hO, h12, hz, hn, f3, f13, f23, f29, f35, f41, f47, f56, f58, f61, f66, f67, f48⟩ := hF
  have hX0 := hX
  obtain ⟨⟨c0, c1, c2⟩, ⟨s3, s13⟩, ⟨l23, l29, l35⟩, ⟨q41, a47, g56, w58, r61, d66, p67⟩, ⟨e0, e3, e8, e10, e12, e13, e14, e15, e16, e17⟩, ⟨e4, e5, e6, e7⟩, hbs, hfl, ho⟩ := hX
  exact ⟨1, 10, 1, 6, 3, 0, nI 0, ⟨by decide, by decide, by decide, by decide, by decide, fun q => absurd q (by decide)⟩, w_number_1 o a0 a1 _ ((n_X9_number o (o + 3) a0 a1 c0 e4 s3.1 (by rw [f3.1]; rfl)).mono (fun _ _ _ _ _ _ hx => pC.sm hx)) c0 hout (by omega), fun n' kd' I' J' P' hF' => (n_X10_number (o + 69) a0 a1 hF'.1 (by rw [hF'.2.1]; rfl)).mono (fun _ _ _ _ _ _ hx => pR.sm hx)⟩
set_option maxHeartbeats 4000000 in
set_option maxRecDepth 100000 in
theorem op_may (o : Nat) (a0 : Int32) {n : Nat} {kd : mK} {I : mI} {J : mJ} {P : mP} (h : st0 o n kd I J P) : ∃ (k d2 mc ms d3 : Nat) (v w : Int32), (k ≤ 2 ∧ d2 ≤ 64 ∧ mc ≤ 42 ∧ ms ≤ 409612 ∧ d3 ≤ 64 ∧ (k = 0 → v = w)) ∧ CtW [(0, 9, 12, 18)] yL_may cL_may 4 (some .int) d2 mc ms [.ref o, .int a0, .ref (o + 125)] n kd I J P (pWr o n kd I J P k v.toInt64) ∧ ∀ (n' : Nat) (kd' : mK) (I' : mI) (J' : mJ) (P' : mP), fsM (o + 69) kd' I' J' P' → Ct yX10_may cX10_may 2 (some .int) d3 0 0 [.ref (o + 69), .int a0] n' kd' I' J' P' (pR (o + 69) n' kd' I' J' P' (some (.int w)) k) := by
  obtain ⟨hF, hM0, hout, hsm⟩ := h
  have hF0 := hF
  obtain ⟨hX, hO, h12, hz, hn, f3, f13, f23, f29, f35, f41, f47, f56, f58, f61, f66, f67, f48⟩ := hF
  have hX0 := hX
  obtain ⟨⟨c0, c1, c2⟩, ⟨s3, s13⟩, ⟨l23, l29, l35⟩, ⟨q41, a47, g56, w58, r61, d66, p67⟩, ⟨e0, e3, e8, e10, e12, e13, e14, e15, e16, e17⟩, ⟨e4, e5, e6, e7⟩, hbs, hfl, ho⟩ := hX
  exact ⟨1, 10, 1, 6, 3, 0, nI 0, ⟨by decide, by decide, by decide, by decide, by decide, fun q => absurd q (by decide)⟩, w_may_1 o a0 _ ((n_X9_may o (o + 3) a0 c0 e4 s3.1 (by rw [f3.1]; rfl)).mono (fun _ _ _ _ _ _ hx => pC.sm hx)) c0 hout (by omega), fun n' kd' I' J' P' hF' => (n_X10_may (o + 69) a0 hF'.1 (by rw [hF'.2.1]; rfl)).mono (fun _ _ _ _ _ _ hx => pR.sm hx)⟩
set_option maxHeartbeats 4000000 in
set_option maxRecDepth 100000 in
theorem op_holds (o : Nat) (a0 : Int32) (a1 : Int64) {n : Nat} {kd : mK} {I : mI} {J : mJ} {P : mP} (h : st0 o n kd I J P) : ∃ (k d2 mc ms d3 : Nat) (v w : Int32), (k ≤ 2 ∧ d2 ≤ 64 ∧ mc ≤ 42 ∧ ms ≤ 409612 ∧ d3 ≤ 64 ∧ (k = 0 → v = w)) ∧ CtW [(0, 11, 14, 18), (0, 11, 18, 13)] yL_holds cL_holds 6 (some .int) d2 mc ms [.ref o, .int a0, .long a1, .ref (o + 125)] n kd I J P (pWr o n kd I J P k v.toInt64) ∧ ∀ (n' : Nat) (kd' : mK) (I' : mI) (J' : mJ) (P' : mP), fsM (o + 69) kd' I' J' P' → Ct yX10_holds cX10_holds 5 (some .int) d3 0 0 [.ref (o + 69), .int a0, .long a1] n' kd' I' J' P' (pR (o + 69) n' kd' I' J' P' (some (.int w)) k) := by
  obtain ⟨hF, hM0, hout, hsm⟩ := h
  have hF0 := hF
  obtain ⟨hX, hO, h12, hz, hn, f3, f13, f23, f29, f35, f41, f47, f56, f58, f61, f66, f67, f48⟩ := hF
  have hX0 := hX
  obtain ⟨⟨c0, c1, c2⟩, ⟨s3, s13⟩, ⟨l23, l29, l35⟩, ⟨q41, a47, g56, w58, r61, d66, p67⟩, ⟨e0, e3, e8, e10, e12, e13, e14, e15, e16, e17⟩, ⟨e4, e5, e6, e7⟩, hbs, hfl, ho⟩ := hX
  exact ⟨1, 10, 1, 6, 3, 0, nI 0, ⟨by decide, by decide, by decide, by decide, by decide, fun q => absurd q (by decide)⟩, w_holds_1 o a0 a1 _ ((n_X9_holds o (o + 3) a0 a1 c0 e4 s3.1 (by rw [f3.1]; rfl)).mono (fun _ _ _ _ _ _ hx => pC.sm hx)) c0 hout (by omega), fun n' kd' I' J' P' hF' => (n_X10_holds (o + 69) a0 a1 hF'.1 (by rw [hF'.2.1]; rfl)).mono (fun _ _ _ _ _ _ hx => pR.sm hx)⟩
set_option maxHeartbeats 4000000 in
set_option maxRecDepth 100000 in
theorem op_post (o : Nat) (a0 : Int32) (a1 : Int32) {n : Nat} {kd : mK} {I : mI} {J : mJ} {P : mP} (h : st0 o n kd I J P) : ∃ (k d2 mc ms d3 : Nat) (v w : Int32), (k ≤ 2 ∧ d2 ≤ 64 ∧ mc ≤ 42 ∧ ms ≤ 409612 ∧ d3 ≤ 64 ∧ (k = 0 → v = w)) ∧ CtW [(0, 10, 13, 18), (0, 10, 17, 13)] yL_post cL_post 5 (some .int) d2 mc ms [.ref o, .int a0, .int a1, .ref (o + 125)] n kd I J P (pWr o n kd I J P k v.toInt64) ∧ ∀ (n' : Nat) (kd' : mK) (I' : mI) (J' : mJ) (P' : mP), fsM (o + 69) kd' I' J' P' → Ct yX10_post cX10_post 8 (some .int) d3 0 0 [.ref (o + 69), .int a0, .int a1] n' kd' I' J' P' (pR (o + 69) n' kd' I' J' P' (some (.int w)) k) := by
  obtain ⟨hF, hM0, hout, hsm⟩ := h
  have hF0 := hF
  obtain ⟨hX, hO, h12, hz, hn, f3, f13, f23, f29, f35, f41, f47, f56, f58, f61, f66, f67, f48⟩ := hF
  have hX0 := hX
  obtain ⟨⟨c0, c1, c2⟩, ⟨s3, s13⟩, ⟨l23, l29, l35⟩, ⟨q41, a47, g56, w58, r61, d66, p67⟩, ⟨e0, e3, e8, e10, e12, e13, e14, e15, e16, e17⟩, ⟨e4, e5, e6, e7⟩, hbs, hfl, ho⟩ := hX
  exact ⟨1, 10, 1, 6, 3, 0, nI 0, ⟨by decide, by decide, by decide, by decide, by decide, fun q => absurd q (by decide)⟩, w_post_1 o a0 a1 _ ((n_X9_post o (o + 3) a0 a1 c0 e4 s3.1 (by rw [f3.1]; rfl)).mono (fun _ _ _ _ _ _ hx => pC.sm hx)) c0 hout (by omega), fun n' kd' I' J' P' hF' => (n_X10_post (o + 69) a0 a1 hF'.1 (by rw [hF'.2.1]; rfl)).mono (fun _ _ _ _ _ _ hx => pR.sm hx)⟩
set_option maxHeartbeats 4000000 in
set_option maxRecDepth 100000 in
theorem op_feud (o : Nat) (a0 : Int32) (a1 : Int32) (a2 : Int32) {n : Nat} {kd : mK} {I : mI} {J : mJ} {P : mP} (h : st0 o n kd I J P) : ∃ (k d2 mc ms d3 : Nat) (v w : Int32), (k ≤ 2 ∧ d2 ≤ 64 ∧ mc ≤ 42 ∧ ms ≤ 409612 ∧ d3 ≤ 64 ∧ (k = 0 → v = w)) ∧ CtW [(0, 12, 15, 18), (0, 12, 19, 13)] yL_feud cL_feud 6 (some .int) d2 mc ms [.ref o, .int a0, .int a1, .int a2, .ref (o + 125)] n kd I J P (pWr o n kd I J P k v.toInt64) ∧ ∀ (n' : Nat) (kd' : mK) (I' : mI) (J' : mJ) (P' : mP), fsM (o + 69) kd' I' J' P' → Ct yX10_feud cX10_feud 7 (some .int) d3 0 0 [.ref (o + 69), .int a0, .int a1, .int a2] n' kd' I' J' P' (pR (o + 69) n' kd' I' J' P' (some (.int w)) k) := by
  obtain ⟨hF, hM0, hout, hsm⟩ := h
  have hF0 := hF
  obtain ⟨hX, hO, h12, hz, hn, f3, f13, f23, f29, f35, f41, f47, f56, f58, f61, f66, f67, f48⟩ := hF
  have hX0 := hX
  obtain ⟨⟨c0, c1, c2⟩, ⟨s3, s13⟩, ⟨l23, l29, l35⟩, ⟨q41, a47, g56, w58, r61, d66, p67⟩, ⟨e0, e3, e8, e10, e12, e13, e14, e15, e16, e17⟩, ⟨e4, e5, e6, e7⟩, hbs, hfl, ho⟩ := hX
  exact ⟨1, 10, 1, 6, 3, 0, nI 0, ⟨by decide, by decide, by decide, by decide, by decide, fun q => absurd q (by decide)⟩, w_feud_1 o a0 a1 a2 _ ((n_X9_feud o (o + 3) a0 a1 a2 c0 e4 s3.1 (by rw [f3.1]; rfl)).mono (fun _ _ _ _ _ _ hx => pC.sm hx)) c0 hout (by omega), fun n' kd' I' J' P' hF' => (n_X10_feud (o + 69) a0 a1 a2 hF'.1 (by rw [hF'.2.1]; rfl)).mono (fun _ _ _ _ _ _ hx => pR.sm hx)⟩
set_option maxHeartbeats 4000000 in
set_option maxRecDepth 100000 in
theorem op_proof (o : Nat) (a0 : Int32) {n : Nat} {kd : mK} {I : mI} {J : mJ} {P : mP} (h : st0 o n kd I J P) : ∃ (k d2 mc ms d3 : Nat) (v w : Int32), (k ≤ 2 ∧ d2 ≤ 64 ∧ mc ≤ 42 ∧ ms ≤ 409612 ∧ d3 ≤ 64 ∧ (k = 0 → v = w)) ∧ CtW [(0, 9, 12, 18)] yL_proof cL_proof 4 (some .int) d2 mc ms [.ref o, .int a0, .ref (o + 125)] n kd I J P (pWr o n kd I J P k v.toInt64) ∧ ∀ (n' : Nat) (kd' : mK) (I' : mI) (J' : mJ) (P' : mP), fsM (o + 69) kd' I' J' P' → Ct yX10_proof cX10_proof 6 (some .int) d3 0 0 [.ref (o + 69), .int a0] n' kd' I' J' P' (pR (o + 69) n' kd' I' J' P' (some (.int w)) k) := by
  obtain ⟨hF, hM0, hout, hsm⟩ := h
  have hF0 := hF
  obtain ⟨hX, hO, h12, hz, hn, f3, f13, f23, f29, f35, f41, f47, f56, f58, f61, f66, f67, f48⟩ := hF
  have hX0 := hX
  obtain ⟨⟨c0, c1, c2⟩, ⟨s3, s13⟩, ⟨l23, l29, l35⟩, ⟨q41, a47, g56, w58, r61, d66, p67⟩, ⟨e0, e3, e8, e10, e12, e13, e14, e15, e16, e17⟩, ⟨e4, e5, e6, e7⟩, hbs, hfl, ho⟩ := hX
  exact ⟨1, 10, 1, 6, 3, 0, nI 0, ⟨by decide, by decide, by decide, by decide, by decide, fun q => absurd q (by decide)⟩, w_proof_1 o a0 _ ((n_X9_proof o (o + 3) a0 c0 e4 s3.1 (by rw [f3.1]; rfl)).mono (fun _ _ _ _ _ _ hx => pC.sm hx)) c0 hout (by omega), fun n' kd' I' J' P' hF' => (n_X10_proof (o + 69) a0 hF'.1 (by rw [hF'.2.1]; rfl)).mono (fun _ _ _ _ _ _ hx => pR.sm hx)⟩
set_option maxHeartbeats 4000000 in
set_option maxRecDepth 100000 in
theorem op_changed (o : Nat) (a0 : Int32) (a1 : Int32) (a2 : Int32) (a3 : Int32) {n : Nat} {kd : mK} {I : mI} {J : mJ} {P : mP} (h : st0 o n kd I J P) : ∃ (k d2 mc ms d3 : Nat) (v w : Int32), (k ≤ 2 ∧ d2 ≤ 64 ∧ mc ≤ 42 ∧ ms ≤ 409612 ∧ d3 ≤ 64 ∧ (k = 0 → v = w)) ∧ CtW [(0, 14, 17, 18), (0, 14, 21, 13)] yL_changed cL_changed 7 (some .int) d2 mc ms [.ref o, .int a0, .int a1, .int a2, .int a3, .ref (o + 125)] n kd I J P (pWr o n kd I J P k v.toInt64) ∧ ∀ (n' : Nat) (kd' : mK) (I' : mI) (J' : mJ) (P' : mP), fsM (o + 69) kd' I' J' P' → Ct yX10_changed cX10_changed 11 (some .int) d3 0 0 [.ref (o + 69), .int a0, .int a1, .int a2, .int a3] n' kd' I' J' P' (pR (o + 69) n' kd' I' J' P' (some (.int w)) k) := by
  obtain ⟨hF, hM0, hout, hsm⟩ := h
  have hF0 := hF
  obtain ⟨hX, hO, h12, hz, hn, f3, f13, f23, f29, f35, f41, f47, f56, f58, f61, f66, f67, f48⟩ := hF
  have hX0 := hX
  obtain ⟨⟨c0, c1, c2⟩, ⟨s3, s13⟩, ⟨l23, l29, l35⟩, ⟨q41, a47, g56, w58, r61, d66, p67⟩, ⟨e0, e3, e8, e10, e12, e13, e14, e15, e16, e17⟩, ⟨e4, e5, e6, e7⟩, hbs, hfl, ho⟩ := hX
  exact ⟨1, 10, 1, 6, 3, 0, nI 0, ⟨by decide, by decide, by decide, by decide, by decide, fun q => absurd q (by decide)⟩, w_changed_1 o a0 a1 a2 a3 _ ((n_X9_changed o (o + 3) a0 a1 a2 a3 c0 e4 s3.1 (by rw [f3.1]; rfl)).mono (fun _ _ _ _ _ _ hx => pC.sm hx)) c0 hout (by omega), fun n' kd' I' J' P' hF' => (n_X10_changed (o + 69) a0 a1 a2 a3 hF'.1 (by rw [hF'.2.1]; rfl)).mono (fun _ _ _ _ _ _ hx => pR.sm hx)⟩
set_option maxHeartbeats 4000000 in
set_option maxRecDepth 100000 in
theorem op_ring (o : Nat) (a0 : Int32) (a1 : Int32) {n : Nat} {kd : mK} {I : mI} {J : mJ} {P : mP} (h : st0 o n kd I J P) : ∃ (k d2 mc ms d3 : Nat) (v w : Int32), (k ≤ 2 ∧ d2 ≤ 64 ∧ mc ≤ 42 ∧ ms ≤ 409612 ∧ d3 ≤ 64 ∧ (k = 0 → v = w)) ∧ CtW [(0, 10, 13, 18)] yL_ring cL_ring 5 (some .int) d2 mc ms [.ref o, .int a0, .int a1, .ref (o + 125)] n kd I J P (pWr o n kd I J P k v.toInt64) ∧ ∀ (n' : Nat) (kd' : mK) (I' : mI) (J' : mJ) (P' : mP), fsM (o + 69) kd' I' J' P' → Ct yX10_ring cX10_ring 3 (some .int) d3 0 0 [.ref (o + 69), .int a0, .int a1] n' kd' I' J' P' (pR (o + 69) n' kd' I' J' P' (some (.int w)) k) := by
  obtain ⟨hF, hM0, hout, hsm⟩ := h
  have hF0 := hF
  obtain ⟨hX, hO, h12, hz, hn, f3, f13, f23, f29, f35, f41, f47, f56, f58, f61, f66, f67, f48⟩ := hF
  have hX0 := hX
  obtain ⟨⟨c0, c1, c2⟩, ⟨s3, s13⟩, ⟨l23, l29, l35⟩, ⟨q41, a47, g56, w58, r61, d66, p67⟩, ⟨e0, e3, e8, e10, e12, e13, e14, e15, e16, e17⟩, ⟨e4, e5, e6, e7⟩, hbs, hfl, ho⟩ := hX
  exact ⟨1, 10, 1, 6, 3, 0, nI 0, ⟨by decide, by decide, by decide, by decide, by decide, fun q => absurd q (by decide)⟩, w_ring_1 o a0 a1 _ ((n_X9_ring o (o + 3) a0 a1 c0 e4 s3.1 (by rw [f3.1]; rfl)).mono (fun _ _ _ _ _ _ hx => pC.sm hx)) c0 hout (by omega), fun n' kd' I' J' P' hF' => (n_X10_ring (o + 69) a0 a1 hF'.1 (by rw [hF'.2.1]; rfl)).mono (fun _ _ _ _ _ _ hx => pR.sm hx)⟩
set_option maxHeartbeats 4000000 in
set_option maxRecDepth 100000 in
theorem op_left (o : Nat) (a0 : Int32) (a1 : Int32) {n : Nat} {kd : mK} {I : mI} {J : mJ} {P : mP} (h : st0 o n kd I J P) : ∃ (k d2 mc ms d3 : Nat) (v w : Int32), (k ≤ 2 ∧ d2 ≤ 64 ∧ mc ≤ 42 ∧ ms ≤ 409612 ∧ d3 ≤ 64 ∧ (k = 0 → v = w)) ∧ CtW [(0, 10, 13, 18), (0, 10, 17, 13)] yL_left cL_left 5 (some .int) d2 mc ms [.ref o, .int a0, .int a1, .ref (o + 125)] n kd I J P (pWr o n kd I J P k v.toInt64) ∧ ∀ (n' : Nat) (kd' : mK) (I' : mI) (J' : mJ) (P' : mP), fsM (o + 69) kd' I' J' P' → Ct yX10_left cX10_left 3 (some .int) d3 0 0 [.ref (o + 69), .int a0, .int a1] n' kd' I' J' P' (pR (o + 69) n' kd' I' J' P' (some (.int w)) k) := by
  obtain ⟨hF, hM0, hout, hsm⟩ := h
  have hF0 := hF
  obtain ⟨hX, hO, h12, hz, hn, f3, f13, f23, f29, f35, f41, f47, f56, f58, f61, f66, f67, f48⟩ := hF
  have hX0 := hX
  obtain ⟨⟨c0, c1, c2⟩, ⟨s3, s13⟩, ⟨l23, l29, l35⟩, ⟨q41, a47, g56, w58, r61, d66, p67⟩, ⟨e0, e3, e8, e10, e12, e13, e14, e15, e16, e17⟩, ⟨e4, e5, e6, e7⟩, hbs, hfl, ho⟩ := hX
  exact ⟨1, 10, 1, 6, 3, 0, nI 0, ⟨by decide, by decide, by decide, by decide, by decide, fun q => absurd q (by decide)⟩, w_left_1 o a0 a1 _ ((n_X9_left o (o + 3) a0 a1 c0 e4 s3.1 (by rw [f3.1]; rfl)).mono (fun _ _ _ _ _ _ hx => pC.sm hx)) c0 hout (by omega), fun n' kd' I' J' P' hF' => (n_X10_left (o + 69) a0 a1 hF'.1 (by rw [hF'.2.1]; rfl)).mono (fun _ _ _ _ _ _ hx => pR.sm hx)⟩
set_option maxHeartbeats 4000000 in
set_option maxRecDepth 100000 in
theorem op_look (o : Nat) (a0 : Int32) (a1 : Int32) {n : Nat} {kd : mK} {I : mI} {J : mJ} {P : mP} (h : st0 o n kd I J P) : ∃ (k d2 mc ms d3 : Nat) (v w : Int32), (k ≤ 2 ∧ d2 ≤ 64 ∧ mc ≤ 42 ∧ ms ≤ 409612 ∧ d3 ≤ 64 ∧ (k = 0 → v = w)) ∧ CtW [(0, 10, 13, 18)] yL_look cL_look 5 (some .int) d2 mc ms [.ref o, .int a0, .int a1, .ref (o + 125)] n kd I J P (pWr o n kd I J P k v.toInt64) ∧ ∀ (n' : Nat) (kd' : mK) (I' : mI) (J' : mJ) (P' : mP), fsM (o + 69) kd' I' J' P' → Ct yX10_look cX10_look 8 (some .int) d3 0 0 [.ref (o + 69), .int a0, .int a1] n' kd' I' J' P' (pR (o + 69) n' kd' I' J' P' (some (.int w)) k) := by
  obtain ⟨hF, hM0, hout, hsm⟩ := h
  have hF0 := hF
  obtain ⟨hX, hO, h12, hz, hn, f3, f13, f23, f29, f35, f41, f47, f56, f58, f61, f66, f67, f48⟩ := hF
  have hX0 := hX
  obtain ⟨⟨c0, c1, c2⟩, ⟨s3, s13⟩, ⟨l23, l29, l35⟩, ⟨q41, a47, g56, w58, r61, d66, p67⟩, ⟨e0, e3, e8, e10, e12, e13, e14, e15, e16, e17⟩, ⟨e4, e5, e6, e7⟩, hbs, hfl, ho⟩ := hX
  exact ⟨1, 10, 1, 6, 3, 0, nI 0, ⟨by decide, by decide, by decide, by decide, by decide, fun q => absurd q (by decide)⟩, w_look_1 o a0 a1 _ ((n_X9_look o (o + 3) a0 a1 c0 e4 s3.1 (by rw [f3.1]; rfl)).mono (fun _ _ _ _ _ _ hx => pC.sm hx)) c0 hout (by omega), fun n' kd' I' J' P' hF' => (n_X10_look (o + 69) a0 a1 hF'.1 (by rw [hF'.2.1]; rfl)).mono (fun _ _ _ _ _ _ hx => pR.sm hx)⟩
set_option maxHeartbeats 4000000 in
set_option maxRecDepth 100000 in
theorem op_mute (o : Nat) (a0 : Int32) (a1 : Int32) {n : Nat} {kd : mK} {I : mI} {J : mJ} {P : mP} (h : st0 o n kd I J P) : ∃ (d2 mc ms d3 : Nat) (w : Int32), (d2 ≤ 64 ∧ mc ≤ 42 ∧ ms ≤ 409612 ∧ d3 ≤ 64) ∧ CtW [(0, 17, 20, 18)] yL_mute cL_mute 5 (some .int) d2 mc ms [.ref o, .int a0, .int a1, .ref (o + 125)] n kd I J P (pWr o n kd I J P 1 0) ∧ ∀ (n' : Nat) (kd' : mK) (I' : mI) (J' : mJ) (P' : mP), fsM (o + 69) kd' I' J' P' → Ct yX10_mute cX10_mute 3 (some .boolean) d3 0 0 [.ref (o + 69), .int a0, .int a1] n' kd' I' J' P' (pR (o + 69) n' kd' I' J' P' (some (.int w)) 1) := by
  obtain ⟨hF, hM0, hout, hsm⟩ := h
  have hF0 := hF
  obtain ⟨hX, hO, h12, hz, hn, f3, f13, f23, f29, f35, f41, f47, f56, f58, f61, f66, f67, f48⟩ := hF
  have hX0 := hX
  obtain ⟨⟨c0, c1, c2⟩, ⟨s3, s13⟩, ⟨l23, l29, l35⟩, ⟨q41, a47, g56, w58, r61, d66, p67⟩, ⟨e0, e3, e8, e10, e12, e13, e14, e15, e16, e17⟩, ⟨e4, e5, e6, e7⟩, hbs, hfl, ho⟩ := hX
  exact ⟨10, 1, 6, 3, nI 0, ⟨by decide, by decide, by decide, by decide⟩, w_mute_1 o a0 a1 _ ((n_X9_mute o (o + 3) a0 a1 c0 e4 s3.1 (by rw [f3.1]; rfl)).mono (fun _ _ _ _ _ _ hx => pC.sm hx)) c0 hout (by omega), fun n' kd' I' J' P' hF' => (n_X10_mute (o + 69) a0 a1 hF'.1 (by rw [hF'.2.1]; rfl)).mono (fun _ _ _ _ _ _ hx => pR.sm hx)⟩
set_option maxHeartbeats 4000000 in
set_option maxRecDepth 100000 in
theorem op_door (o : Nat) (a0 : Int32) {n : Nat} {kd : mK} {I : mI} {J : mJ} {P : mP} (h : st0 o n kd I J P) : ∃ (k d2 mc ms d3 : Nat) (v w : Int32), (k ≤ 2 ∧ d2 ≤ 64 ∧ mc ≤ 42 ∧ ms ≤ 409612 ∧ d3 ≤ 64 ∧ (k = 0 → v = w)) ∧ CtW [(0, 9, 12, 18)] yL_door cL_door 4 (some .int) d2 mc ms [.ref o, .int a0, .ref (o + 125)] n kd I J P (pWr o n kd I J P k v.toInt64) ∧ ∀ (n' : Nat) (kd' : mK) (I' : mI) (J' : mJ) (P' : mP), fsM (o + 69) kd' I' J' P' → Ct yX10_door cX10_door 2 (some .int) d3 0 0 [.ref (o + 69), .int a0] n' kd' I' J' P' (pR (o + 69) n' kd' I' J' P' (some (.int w)) k) := by
  obtain ⟨hF, hM0, hout, hsm⟩ := h
  have hF0 := hF
  obtain ⟨hX, hO, h12, hz, hn, f3, f13, f23, f29, f35, f41, f47, f56, f58, f61, f66, f67, f48⟩ := hF
  have hX0 := hX
  obtain ⟨⟨c0, c1, c2⟩, ⟨s3, s13⟩, ⟨l23, l29, l35⟩, ⟨q41, a47, g56, w58, r61, d66, p67⟩, ⟨e0, e3, e8, e10, e12, e13, e14, e15, e16, e17⟩, ⟨e4, e5, e6, e7⟩, hbs, hfl, ho⟩ := hX
  exact ⟨1, 10, 1, 6, 3, 0, nI 0, ⟨by decide, by decide, by decide, by decide, by decide, fun q => absurd q (by decide)⟩, w_door_1 o a0 _ ((n_X9_door o a0 c0 w58.1 e14 (by rw [f58.1]; rfl)).mono (fun _ _ _ _ _ _ hx => pC.sm hx)) c0 hout (by omega), fun n' kd' I' J' P' hF' => (n_X10_door (o + 69) a0 hF'.1 (by rw [hF'.2.1]; rfl)).mono (fun _ _ _ _ _ _ hx => pR.sm hx)⟩
set_option maxHeartbeats 4000000 in
set_option maxRecDepth 100000 in
theorem op_street (o : Nat) (a0 : Int32) {n : Nat} {kd : mK} {I : mI} {J : mJ} {P : mP} (h : st0 o n kd I J P) : ∃ (k d2 mc ms d3 : Nat) (v w : Int32), (k ≤ 2 ∧ d2 ≤ 64 ∧ mc ≤ 42 ∧ ms ≤ 409612 ∧ d3 ≤ 64 ∧ (k = 0 → v = w)) ∧ CtW [(0, 9, 12, 13)] yL_street cL_street 4 (some .int) d2 mc ms [.ref o, .int a0, .ref (o + 125)] n kd I J P (pWr o n kd I J P k v.toInt64) ∧ ∀ (n' : Nat) (kd' : mK) (I' : mI) (J' : mJ) (P' : mP), fsM (o + 69) kd' I' J' P' → Ct yX10_street cX10_street 3 (some .int) d3 0 0 [.ref (o + 69), .int a0] n' kd' I' J' P' (pR (o + 69) n' kd' I' J' P' (some (.int w)) k) := by
  obtain ⟨hF, hM0, hout, hsm⟩ := h
  have hF0 := hF
  obtain ⟨hX, hO, h12, hz, hn, f3, f13, f23, f29, f35, f41, f47, f56, f58, f61, f66, f67, f48⟩ := hF
  have hX0 := hX
  obtain ⟨⟨c0, c1, c2⟩, ⟨s3, s13⟩, ⟨l23, l29, l35⟩, ⟨q41, a47, g56, w58, r61, d66, p67⟩, ⟨e0, e3, e8, e10, e12, e13, e14, e15, e16, e17⟩, ⟨e4, e5, e6, e7⟩, hbs, hfl, ho⟩ := hX
  by_cases h0 : a0 = nI 0
  · subst h0
    exact ⟨0, 64, 1, 6, 3, nI 0, nI 0, ⟨by decide, by decide, by decide, by decide, by decide, fun _ => rfl⟩, w_street_0 o (nI 0) (nI 0) (p_street_0 o hF0) c0 hout (by omega), fun n' kd' I' J' P' hF' => q_street_0 (o + 69) hF'⟩
  · exact ⟨1, 64, 1, 6, 3, 0, nI 0, ⟨by decide, by decide, by decide, by decide, by decide, fun q => absurd q (by decide)⟩, w_street_1 o a0 _ (p_street_no o a0 hF0 h0) c0 hout (by omega), fun n' kd' I' J' P' hF' => q_street_no (o + 69) a0 hF' h0⟩
set_option maxHeartbeats 4000000 in
set_option maxRecDepth 100000 in
theorem op_count (o : Nat) (a0 : Int32) {n : Nat} {kd : mK} {I : mI} {J : mJ} {P : mP} (h : st0 o n kd I J P) : ∃ (k d2 mc ms d3 : Nat) (v w : Int32), (k ≤ 2 ∧ d2 ≤ 64 ∧ mc ≤ 42 ∧ ms ≤ 409612 ∧ d3 ≤ 64 ∧ (k = 0 → v = w)) ∧ CtW [(0, 9, 12, 18)] yL_count cL_count 4 (some .int) d2 mc ms [.ref o, .int a0, .ref (o + 125)] n kd I J P (pWr o n kd I J P k v.toInt64) ∧ ∀ (n' : Nat) (kd' : mK) (I' : mI) (J' : mJ) (P' : mP), fsM (o + 69) kd' I' J' P' → Ct yX10_count cX10_count 2 (some .int) d3 0 0 [.ref (o + 69), .int a0] n' kd' I' J' P' (pR (o + 69) n' kd' I' J' P' (some (.int w)) k) := by
  obtain ⟨hF, hM0, hout, hsm⟩ := h
  have hF0 := hF
  obtain ⟨hX, hO, h12, hz, hn, f3, f13, f23, f29, f35, f41, f47, f56, f58, f61, f66, f67, f48⟩ := hF
  have hX0 := hX
  obtain ⟨⟨c0, c1, c2⟩, ⟨s3, s13⟩, ⟨l23, l29, l35⟩, ⟨q41, a47, g56, w58, r61, d66, p67⟩, ⟨e0, e3, e8, e10, e12, e13, e14, e15, e16, e17⟩, ⟨e4, e5, e6, e7⟩, hbs, hfl, ho⟩ := hX
  by_cases h0 : a0 = nI 0
  · subst h0
    exact ⟨0, 10, 1, 6, 3, nI 0, nI 0, ⟨by decide, by decide, by decide, by decide, by decide, fun _ => rfl⟩, w_count_0 o (nI 0) (nI 0) (by have hc := c_count_0 (n := n) (I := I) (J := J) o (o + 3) (o + 23) c0 s3.1 l23.1 c2 e4 e6 e3; rw [show I (o + 3) 0 = nI 0 from (by rw [f3.1]; rfl)] at hc; exact hc.mono (fun _ _ _ _ _ _ hx => pC.sm hx)) c0 hout (by omega), fun n' kd' I' J' P' hF' => by have hc := c_countR_0 (n := n') (I := I') (J := J') (o + 69) hF'.1; rw [show I' (o + 69) 1 = nI 0 from (by rw [hF'.2.1]; rfl)] at hc; exact hc.mono (fun _ _ _ _ _ _ hx => pR.sm hx)⟩
  by_cases h1 : a0 = nI 1
  · subst h1
    exact ⟨0, 10, 1, 6, 3, nI 9, nI 9, ⟨by decide, by decide, by decide, by decide, by decide, fun _ => rfl⟩, w_count_0 o (nI 1) (nI 9) (by have hc := c_count_1 (n := n) (I := I) (J := J) o (o + 3) (o + 23) c0 s3.1 l23.1 c2 e4 e6 e3; rw [show I (o + 3) 1 = nI 9 from (by rw [f3.1]; rfl)] at hc; exact hc.mono (fun _ _ _ _ _ _ hx => pC.sm hx)) c0 hout (by omega), fun n' kd' I' J' P' hF' => by have hc := c_countR_1 (n := n') (I := I') (J := J') (o + 69) hF'.1; rw [show I' (o + 69) 2 = nI 9 from (by rw [hF'.2.1]; rfl)] at hc; exact hc.mono (fun _ _ _ _ _ _ hx => pR.sm hx)⟩
  by_cases h2 : a0 = nI 2
  · subst h2
    exact ⟨0, 10, 1, 6, 3, nI 0, nI 0, ⟨by decide, by decide, by decide, by decide, by decide, fun _ => rfl⟩, w_count_0 o (nI 2) (nI 0) (by have hc := c_count_2 (n := n) (I := I) (J := J) o (o + 3) (o + 23) c0 s3.1 l23.1 c2 e4 e6 e3; rw [show (if I (o + 3) 2 = 0 then nI 0 else nI 1) = nI 0 from (by rw [f3.1]; rfl)] at hc; exact hc.mono (fun _ _ _ _ _ _ hx => pC.sm hx)) c0 hout (by omega), fun n' kd' I' J' P' hF' => by have hc := c_countR_2 (n := n') (I := I') (J := J') (o + 69) hF'.1; rw [show (if I' (o + 69) 3 = 0 then nI 0 else nI 1) = nI 0 from (by rw [hF'.2.1]; rfl)] at hc; exact hc.mono (fun _ _ _ _ _ _ hx => pR.sm hx)⟩
  by_cases h3 : a0 = nI 3
  · subst h3
    exact ⟨0, 10, 1, 6, 3, nI 0, nI 0, ⟨by decide, by decide, by decide, by decide, by decide, fun _ => rfl⟩, w_count_0 o (nI 3) (nI 0) (by have hc := c_count_3 (n := n) (I := I) (J := J) o (o + 3) (o + 23) c0 s3.1 l23.1 c2 e4 e6 e3; rw [show I (o + 23) 4 = nI 0 from (by rw [f23.1]; rfl)] at hc; exact hc.mono (fun _ _ _ _ _ _ hx => pC.sm hx)) c0 hout (by omega), fun n' kd' I' J' P' hF' => by have hc := c_countR_3 (n := n') (I := I') (J := J') (o + 69) hF'.1; rw [show I' (o + 69) 45 = nI 0 from (by rw [hF'.2.1]; rfl)] at hc; exact hc.mono (fun _ _ _ _ _ _ hx => pR.sm hx)⟩
  by_cases h4 : a0 = nI 4
  · subst h4
    exact ⟨0, 10, 1, 6, 3, nI 0, nI 0, ⟨by decide, by decide, by decide, by decide, by decide, fun _ => rfl⟩, w_count_0 o (nI 4) (nI 0) (by have hc := c_count_4 (n := n) (I := I) (J := J) o (o + 3) (o + 23) c0 s3.1 l23.1 c2 e4 e6 e3; rw [show I (o + 23) 7 = nI 0 from (by rw [f23.1]; rfl)] at hc; exact hc.mono (fun _ _ _ _ _ _ hx => pC.sm hx)) c0 hout (by omega), fun n' kd' I' J' P' hF' => by have hc := c_countR_4 (n := n') (I := I') (J := J') (o + 69) hF'.1; rw [show I' (o + 69) 47 = nI 0 from (by rw [hF'.2.1]; rfl)] at hc; exact hc.mono (fun _ _ _ _ _ _ hx => pR.sm hx)⟩
  by_cases h5 : a0 = nI 5
  · subst h5
    exact ⟨0, 10, 1, 6, 3, nI 0, nI 0, ⟨by decide, by decide, by decide, by decide, by decide, fun _ => rfl⟩, w_count_0 o (nI 5) (nI 0) (by have hc := c_count_5 (n := n) (I := I) (J := J) o (o + 3) (o + 23) c0 s3.1 l23.1 c2 e4 e6 e3; rw [show I o 1 = nI 0 from (by rw [hO]; rfl)] at hc; exact hc.mono (fun _ _ _ _ _ _ hx => pC.sm hx)) c0 hout (by omega), fun n' kd' I' J' P' hF' => by have hc := c_countR_5 (n := n') (I := I') (J := J') (o + 69) hF'.1; rw [show I' (o + 69) 15 = nI 0 from (by rw [hF'.2.1]; rfl)] at hc; exact hc.mono (fun _ _ _ _ _ _ hx => pR.sm hx)⟩
  by_cases h6 : a0 = nI 6
  · subst h6
    exact ⟨0, 10, 1, 6, 3, nI 0, nI 0, ⟨by decide, by decide, by decide, by decide, by decide, fun _ => rfl⟩, w_count_0 o (nI 6) (nI 0) (by have hc := c_count_6 (n := n) (I := I) (J := J) o (o + 3) (o + 23) c0 s3.1 l23.1 c2 e4 e6 e3; rw [show I (o + 2) 0 = nI 0 from (by rw [h12.2]; rfl)] at hc; exact hc.mono (fun _ _ _ _ _ _ hx => pC.sm hx)) c0 hout (by omega), fun n' kd' I' J' P' hF' => by have hc := c_countR_6 (n := n') (I := I') (J := J') (o + 69) hF'.1; rw [show I' (o + 69 + 12) 0 = nI 0 from (by rw [(hF'.2.2 12 (by decide) (by decide)).1]; rfl)] at hc; exact hc.mono (fun _ _ _ _ _ _ hx => pR.sm hx)⟩
  by_cases h7 : a0 = nI 7
  · subst h7
    exact ⟨0, 10, 1, 6, 3, nI 0, nI 0, ⟨by decide, by decide, by decide, by decide, by decide, fun _ => rfl⟩, w_count_0 o (nI 7) (nI 0) (by have hc := c_count_7 (n := n) (I := I) (J := J) o (o + 3) (o + 23) c0 s3.1 l23.1 c2 e4 e6 e3; rw [show I (o + 2) 1 = nI 0 from (by rw [h12.2]; rfl)] at hc; exact hc.mono (fun _ _ _ _ _ _ hx => pC.sm hx)) c0 hout (by omega), fun n' kd' I' J' P' hF' => by have hc := c_countR_7 (n := n') (I := I') (J := J') (o + 69) hF'.1; rw [show I' (o + 69 + 12) 1 = nI 0 from (by rw [(hF'.2.2 12 (by decide) (by decide)).1]; rfl)] at hc; exact hc.mono (fun _ _ _ _ _ _ hx => pR.sm hx)⟩
  by_cases h8 : a0 = nI 8
  · subst h8
    exact ⟨0, 10, 1, 6, 3, nI 0, nI 0, ⟨by decide, by decide, by decide, by decide, by decide, fun _ => rfl⟩, w_count_0 o (nI 8) (nI 0) (by have hc := c_count_8 (n := n) (I := I) (J := J) o (o + 3) (o + 23) c0 s3.1 l23.1 c2 e4 e6 e3; rw [show I (o + 2) 2 = nI 0 from (by rw [h12.2]; rfl)] at hc; exact hc.mono (fun _ _ _ _ _ _ hx => pC.sm hx)) c0 hout (by omega), fun n' kd' I' J' P' hF' => by have hc := c_countR_8 (n := n') (I := I') (J := J') (o + 69) hF'.1; rw [show I' (o + 69 + 12) 2 = nI 0 from (by rw [(hF'.2.2 12 (by decide) (by decide)).1]; rfl)] at hc; exact hc.mono (fun _ _ _ _ _ _ hx => pR.sm hx)⟩
  have hx : ¬ (0 ≤ a0.toInt ∧ a0.toInt ≤ 8) := fun q => by
    have hh : ∀ i : Nat, i < 9 → a0.toInt = (i : Int) → a0 = nI i := fun i hi e => Int32.toInt_inj.mp (by rw [e]; exact (nI_toInt (by omega)).symm)
    rcases (by omega : a0.toInt = 0 ∨ a0.toInt = 1 ∨ a0.toInt = 2 ∨ a0.toInt = 3 ∨ a0.toInt = 4 ∨ a0.toInt = 5 ∨ a0.toInt = 6 ∨ a0.toInt = 7 ∨ a0.toInt = 8) with e | e | e | e | e | e | e | e | e
    · exact h0 (hh 0 (by decide) e)
    · exact h1 (hh 1 (by decide) e)
    · exact h2 (hh 2 (by decide) e)
    · exact h3 (hh 3 (by decide) e)
    · exact h4 (hh 4 (by decide) e)
    · exact h5 (hh 5 (by decide) e)
    · exact h6 (hh 6 (by decide) e)
    · exact h7 (hh 7 (by decide) e)
    · exact h8 (hh 8 (by decide) e)
  have hx2 : (!decide (a0 < nI 0) && !decide (nI 8 < a0)) = false := by
    cases hq : (!decide (a0 < nI 0) && !decide (nI 8 < a0)) with
    | false => rfl
    | true =>
      rw [Bool.and_eq_true, Bool.not_eq_true', Bool.not_eq_true', decide_eq_false_iff_not, decide_eq_false_iff_not, Int32.lt_iff_toInt_lt, Int32.lt_iff_toInt_lt, show (nI 0).toInt = 0 from by decide, show (nI 8).toInt = 8 from by decide] at hq
      exact absurd ⟨by omega, by omega⟩ hx
  exact ⟨1, 10, 1, 6, 3, 0, nI 0, ⟨by decide, by decide, by decide, by decide, by decide, fun q => absurd q (by decide)⟩, w_count_1 o a0 _ ((c_count_no o a0 hx).mono (fun _ _ _ _ _ _ hx => pC.sm hx)) c0 hout (by omega), fun n' kd' I' J' P' hF' => (c_countR_no (o + 69) a0 hF'.1 hx2).mono (fun _ _ _ _ _ _ hx => pR.sm hx)⟩
set_option maxHeartbeats 4000000 in
set_option maxRecDepth 100000 in
theorem op_looks (o : Nat) (a0 : Int32) {n : Nat} {kd : mK} {I : mI} {J : mJ} {P : mP} (h : st0 o n kd I J P) : ∃ (k d2 mc ms d3 : Nat) (v w : Int32), (k ≤ 2 ∧ d2 ≤ 64 ∧ mc ≤ 42 ∧ ms ≤ 409612 ∧ d3 ≤ 64 ∧ (k = 0 → v = w)) ∧ CtW [(0, 9, 12, 18)] yL_looks cL_looks 4 (some .int) d2 mc ms [.ref o, .int a0, .ref (o + 125)] n kd I J P (pWr o n kd I J P k v.toInt64) ∧ ∀ (n' : Nat) (kd' : mK) (I' : mI) (J' : mJ) (P' : mP), fsM (o + 69) kd' I' J' P' → Ct yX10_looks cX10_looks 6 (some .int) d3 0 0 [.ref (o + 69), .int a0] n' kd' I' J' P' (pR (o + 69) n' kd' I' J' P' (some (.int w)) k) := by
  obtain ⟨hF, hM0, hout, hsm⟩ := h
  have hF0 := hF
  obtain ⟨hX, hO, h12, hz, hn, f3, f13, f23, f29, f35, f41, f47, f56, f58, f61, f66, f67, f48⟩ := hF
  have hX0 := hX
  obtain ⟨⟨c0, c1, c2⟩, ⟨s3, s13⟩, ⟨l23, l29, l35⟩, ⟨q41, a47, g56, w58, r61, d66, p67⟩, ⟨e0, e3, e8, e10, e12, e13, e14, e15, e16, e17⟩, ⟨e4, e5, e6, e7⟩, hbs, hfl, ho⟩ := hX
  by_cases h0 : a0 = nI 0
  · subst h0
    exact ⟨0, 23, 2, 10246, 9, nI 0, nI 0, ⟨by decide, by decide, by decide, by decide, by decide, fun _ => rfl⟩, w_looks_0 o (nI 0) (nI 0) (p_looks_0 o hF0) c0 hout (by omega), fun n' kd' I' J' P' hF' => q_looks_0 (o + 69) hF'⟩
  by_cases h1 : a0 = nI 1
  · subst h1
    exact ⟨0, 23, 2, 10246, 9, (-1), (-1), ⟨by decide, by decide, by decide, by decide, by decide, fun _ => rfl⟩, w_looks_0 o (nI 1) ((-1)) (p_looks_1 o hF0) c0 hout (by omega), fun n' kd' I' J' P' hF' => q_looks_1 (o + 69) hF'⟩
  exact ⟨1, 23, 2, 10246, 9, 0, nI 0, ⟨by decide, by decide, by decide, by decide, by decide, fun q => absurd q (by decide)⟩, w_looks_1 o a0 _ (p_looks_no o a0 hF0 h0 h1) c0 hout (by omega), fun n' kd' I' J' P' hF' => q_looks_no (o + 69) a0 hF' h0 h1⟩
set_option maxHeartbeats 4000000 in
set_option maxRecDepth 100000 in
theorem op_build (o : Nat) (a0 : Int32) {n : Nat} {kd : mK} {I : mI} {J : mJ} {P : mP} (h : st0 o n kd I J P) : ∃ (k d2 mc ms d3 : Nat) (v w : Int32), (k ≤ 2 ∧ d2 ≤ 64 ∧ mc ≤ 42 ∧ ms ≤ 409612 ∧ d3 ≤ 64 ∧ (k = 0 → v = w)) ∧ CtW [(0, 9, 12, 18), (0, 9, 15, 13)] yL_build cL_build 4 (some .int) d2 mc ms [.ref o, .int a0, .ref (o + 125)] n kd I J P (pWr o n kd I J P k v.toInt64) ∧ ∀ (n' : Nat) (kd' : mK) (I' : mI) (J' : mJ) (P' : mP), fsM (o + 69) kd' I' J' P' → Ct yX10_build cX10_build 3 (some .int) d3 0 0 [.ref (o + 69), .int a0] n' kd' I' J' P' (pR (o + 69) n' kd' I' J' P' (some (.int w)) k) := by
  obtain ⟨hF, hM0, hout, hsm⟩ := h
  have hF0 := hF
  obtain ⟨hX, hO, h12, hz, hn, f3, f13, f23, f29, f35, f41, f47, f56, f58, f61, f66, f67, f48⟩ := hF
  have hX0 := hX
  obtain ⟨⟨c0, c1, c2⟩, ⟨s3, s13⟩, ⟨l23, l29, l35⟩, ⟨q41, a47, g56, w58, r61, d66, p67⟩, ⟨e0, e3, e8, e10, e12, e13, e14, e15, e16, e17⟩, ⟨e4, e5, e6, e7⟩, hbs, hfl, ho⟩ := hX
  by_cases h0 : a0 = nI 0
  · subst h0
    exact ⟨0, 11, 1, 6, 7, nI 9, nI 9, ⟨by decide, by decide, by decide, by decide, by decide, fun _ => rfl⟩, w_build_0 o (nI 0) (nI 9) (p_build_0 o hF0) c0 hout (by omega), fun n' kd' I' J' P' hF' => q_build_0 (o + 69) hF'⟩
  by_cases h1 : a0 = nI 1
  · subst h1
    exact ⟨0, 11, 1, 6, 7, (nI 1), (nI 1), ⟨by decide, by decide, by decide, by decide, by decide, fun _ => rfl⟩, w_build_0 o (nI 1) ((nI 1)) (p_build_1 o hF0) c0 hout (by omega), fun n' kd' I' J' P' hF' => q_build_1 (o + 69) hF'⟩
  exact ⟨1, 11, 1, 6, 7, 0, nI 0, ⟨by decide, by decide, by decide, by decide, by decide, fun q => absurd q (by decide)⟩, w_build_1 o a0 _ (p_build_no o a0 hF0 h0 h1) c0 hout (by omega), fun n' kd' I' J' P' hF' => q_build_no (o + 69) a0 hF' h0 h1⟩
set_option maxHeartbeats 4000000 in
set_option maxRecDepth 100000 in
theorem op_hints (o : Nat) (a0 : Int32) {n : Nat} {kd : mK} {I : mI} {J : mJ} {P : mP} (h : st0 o n kd I J P) : ∃ (k d2 mc ms d3 : Nat) (v w : Int32), (k ≤ 2 ∧ d2 ≤ 64 ∧ mc ≤ 42 ∧ ms ≤ 409612 ∧ d3 ≤ 64 ∧ (k = 0 → v = w)) ∧ CtW [(0, 9, 12, 18)] yL_hints cL_hints 4 (some .int) d2 mc ms [.ref o, .int a0, .ref (o + 125)] n kd I J P (pWr o n kd I J P k v.toInt64) ∧ ∀ (n' : Nat) (kd' : mK) (I' : mI) (J' : mJ) (P' : mP), fsM (o + 69) kd' I' J' P' → Ct yX10_hints cX10_hints 2 (some .int) d3 0 0 [.ref (o + 69), .int a0] n' kd' I' J' P' (pR (o + 69) n' kd' I' J' P' (some (.int w)) k) := by
  obtain ⟨hF, hM0, hout, hsm⟩ := h
  have hF0 := hF
  obtain ⟨hX, hO, h12, hz, hn, f3, f13, f23, f29, f35, f41, f47, f56, f58, f61, f66, f67, f48⟩ := hF
  have hX0 := hX
  obtain ⟨⟨c0, c1, c2⟩, ⟨s3, s13⟩, ⟨l23, l29, l35⟩, ⟨q41, a47, g56, w58, r61, d66, p67⟩, ⟨e0, e3, e8, e10, e12, e13, e14, e15, e16, e17⟩, ⟨e4, e5, e6, e7⟩, hbs, hfl, ho⟩ := hX
  by_cases h0 : a0 = nI 0
  · subst h0
    exact ⟨0, 11, 1, 6, 9, nI 0, nI 0, ⟨by decide, by decide, by decide, by decide, by decide, fun _ => rfl⟩, w_hints_0 o (nI 0) (nI 0) (p_hints_0 o hF0) c0 hout (by omega), fun n' kd' I' J' P' hF' => q_hints_0 (o + 69) hF'⟩
  · exact ⟨1, 11, 1, 6, 9, 0, nI 0, ⟨by decide, by decide, by decide, by decide, by decide, fun q => absurd q (by decide)⟩, w_hints_1 o a0 _ (p_hints_no o a0 hF0 h0) c0 hout (by omega), fun n' kd' I' J' P' hF' => q_hints_no (o + 69) a0 hF' h0⟩
theorem wi_no {x a b : Int32} (h : x < a ∨ b < x) : (!decide (x < a) && !decide (b < x)) = false := by
  rcases h with q | q
  · rw [decide_eq_true q]; rfl
  · rw [decide_eq_true q, Bool.not_true, Bool.and_false]
theorem wi_ok {x a b : Int32} (h1 : ¬ x < a) (h2 : ¬ b < x) : (!decide (x < a) && !decide (b < x)) = true := by rw [decide_eq_false h1, decide_eq_false h2]; rfl
theorem nI_upTo {x : Int32} {b : Nat} (hb : b < 2 ^ 31) (h1 : ¬ x < nI 0) (h2 : ¬ nI b < x) : ∃ k, k ≤ b ∧ x = nI k := by
  rw [Int32.lt_iff_toInt_lt, show (nI 0).toInt = 0 from by decide] at h1
  rw [Int32.lt_iff_toInt_lt, nI_toInt hb] at h2
  refine ⟨x.toInt.toNat, by omega, Int32.toInt_inj.mp ?_⟩
  rw [nI_toInt (by omega)]
  omega
set_option maxHeartbeats 4000000 in
set_option maxRecDepth 100000 in
theorem op_years (o : Nat) (a0 : Int32) (a1 : Int32) {n : Nat} {kd : mK} {I : mI} {J : mJ} {P : mP} (h : st0 o n kd I J P) : ∃ (k d2 mc ms d3 : Nat) (v w : Int32), (k ≤ 2 ∧ d2 ≤ 64 ∧ mc ≤ 42 ∧ ms ≤ 409612 ∧ d3 ≤ 64 ∧ (k = 0 → v = w)) ∧ CtW [(0, 10, 13, 13)] yL_years cL_years 5 (some .int) d2 mc ms [.ref o, .int a0, .int a1, .ref (o + 125)] n kd I J P (pWr o n kd I J P k v.toInt64) ∧ ∀ (n' : Nat) (kd' : mK) (I' : mI) (J' : mJ) (P' : mP), fsM (o + 69) kd' I' J' P' → Ct yX10_years cX10_years 8 (some .int) d3 0 0 [.ref (o + 69), .int a0, .int a1] n' kd' I' J' P' (pR (o + 69) n' kd' I' J' P' (some (.int w)) k) := by
  obtain ⟨hF, hM0, hout, hsm⟩ := h
  have hF0 := hF
  obtain ⟨hX, hO, h12, hz, hn, f3, f13, f23, f29, f35, f41, f47, f56, f58, f61, f66, f67, f48⟩ := hF
  have hX0 := hX
  obtain ⟨⟨c0, c1, c2⟩, ⟨s3, s13⟩, ⟨l23, l29, l35⟩, ⟨q41, a47, g56, w58, r61, d66, p67⟩, ⟨e0, e3, e8, e10, e12, e13, e14, e15, e16, e17⟩, ⟨e4, e5, e6, e7⟩, hbs, hfl, ho⟩ := hX
  by_cases hx : a1 < nI 0 ∨ nI 30 < a1
  · exact ⟨1, 10, 1, 6, 3, 0, nI 0, ⟨by decide, by decide, by decide, by decide, by decide, fun q => absurd q (by decide)⟩, w_years_1 o a0 a1 _ ((c_years_no o a0 a1 hx).mono (fun _ _ _ _ _ _ hx => pC.sm hx)) c0 hout (by omega), fun n' kd' I' J' P' hF' => (c_yearsR_no (o + 69) a0 a1 hF'.1 (wi_no hx)).mono (fun _ _ _ _ _ _ hx => pR.sm hx)⟩
  · exact ⟨0, 10, 1, 6, 3, a1, a1, ⟨by decide, by decide, by decide, by decide, by decide, fun _ => rfl⟩, w_years_0 o a0 a1 (a1) ((c_years_0 o (o + 3) a0 a1 c0 s3.1 e4 (by rw [f3.1]; rfl) (fun q => hx (Or.inl q)) (fun q => hx (Or.inr q))).mono (fun _ _ _ _ _ _ hx => pC.sm hx)) c0 hout (by omega), fun n' kd' I' J' P' hF' => (c_yearsR_0 (o + 69) a0 a1 hF'.1 (by rw [hF'.2.1]; rfl) (wi_ok (fun q => hx (Or.inl q)) (fun q => hx (Or.inr q)))).mono (fun _ _ _ _ _ _ hx => pR.sm hx)⟩
set_option maxHeartbeats 4000000 in
set_option maxRecDepth 100000 in
theorem op_walk (o : Nat) (a0 : Int32) (a1 : Int32) (a2 : Int32) {n : Nat} {kd : mK} {I : mI} {J : mJ} {P : mP} (h : st0 o n kd I J P) : ∃ (k d2 mc ms d3 : Nat) (v w : Int32), (k ≤ 2 ∧ d2 ≤ 64 ∧ mc ≤ 42 ∧ ms ≤ 409612 ∧ d3 ≤ 64 ∧ (k = 0 → v = w)) ∧ CtW [(0, 12, 15, 13)] yL_walk cL_walk 6 (some .int) d2 mc ms [.ref o, .int a0, .int a1, .int a2, .ref (o + 125)] n kd I J P (pWr o n kd I J P k v.toInt64) ∧ ∀ (n' : Nat) (kd' : mK) (I' : mI) (J' : mJ) (P' : mP), fsM (o + 69) kd' I' J' P' → Ct yX10_walk cX10_walk 10 (some .int) d3 0 0 [.ref (o + 69), .int a0, .int a1, .int a2] n' kd' I' J' P' (pR (o + 69) n' kd' I' J' P' (some (.int w)) k) := by
  obtain ⟨hF, hM0, hout, hsm⟩ := h
  have hF0 := hF
  obtain ⟨hX, hO, h12, hz, hn, f3, f13, f23, f29, f35, f41, f47, f56, f58, f61, f66, f67, f48⟩ := hF
  have hX0 := hX
  obtain ⟨⟨c0, c1, c2⟩, ⟨s3, s13⟩, ⟨l23, l29, l35⟩, ⟨q41, a47, g56, w58, r61, d66, p67⟩, ⟨e0, e3, e8, e10, e12, e13, e14, e15, e16, e17⟩, ⟨e4, e5, e6, e7⟩, hbs, hfl, ho⟩ := hX
  by_cases hx : ¬ a0 = 0 ∨ a2 < 0 ∨ nI 9 < a2 ∨ a1 < nI 1 ∨ nI 9 < a1
  · exact ⟨1, 10, 2, 10252, 9, 0, nI 0, ⟨by decide, by decide, by decide, by decide, by decide, fun q => absurd q (by decide)⟩, w_walk_1 o a0 a1 a2 _ (p_walk_no o a0 a1 a2 hF0 hx) c0 hout (by omega), fun n' kd' I' J' P' hF' => q_walk_no (o + 69) a0 a1 a2 hF' (by rcases hx with q | q | q | q | q; exact Or.inl q; exact Or.inr (Or.inr (wi_no (Or.inl q))); exact Or.inr (Or.inr (wi_no (Or.inr q))); exact Or.inr (Or.inl (wi_no (Or.inl q))); exact Or.inr (Or.inl (wi_no (Or.inr q))))⟩
  · have h0 : a0 = nI 0 := Classical.byContradiction (fun q => hx (Or.inl q))
    have h2 : ¬ a2 < 0 := fun q => hx (Or.inr (Or.inl q))
    have h29 : ¬ nI 9 < a2 := fun q => hx (Or.inr (Or.inr (Or.inl q)))
    have h1 : ¬ a1 < nI 1 := fun q => hx (Or.inr (Or.inr (Or.inr (Or.inl q))))
    have h19 : ¬ nI 9 < a1 := fun q => hx (Or.inr (Or.inr (Or.inr (Or.inr q))))
    subst h0
    exact ⟨0, 10, 2, 10252, 9, nI 0, nI 0, ⟨by decide, by decide, by decide, by decide, by decide, fun _ => rfl⟩, w_walk_0 o (nI 0) a1 a2 (nI 0) (p_walk_0 o a1 a2 hF0 h2 (Int32.not_lt.mp h29) h1 (Int32.not_lt.mp h19)) c0 hout (by omega), fun n' kd' I' J' P' hF' => q_walk_0 (o + 69) a1 a2 hF' (wi_ok h1 h19) (wi_ok h2 h29)⟩
set_option maxHeartbeats 4000000 in
set_option maxRecDepth 100000 in
theorem op_written (o : Nat) (a0 : Int32) {n : Nat} {kd : mK} {I : mI} {J : mJ} {P : mP} (h : st0 o n kd I J P) : ∃ (k d2 mc ms d3 : Nat) (v w : Int32), (k ≤ 2 ∧ d2 ≤ 64 ∧ mc ≤ 42 ∧ ms ≤ 409612 ∧ d3 ≤ 64 ∧ (k = 0 → v = w)) ∧ CtW [(0, 9, 12, 18)] yL_written cL_written 4 (some .int) d2 mc ms [.ref o, .int a0, .ref (o + 125)] n kd I J P (pWr o n kd I J P k v.toInt64) ∧ ∀ (n' : Nat) (kd' : mK) (I' : mI) (J' : mJ) (P' : mP), fsM (o + 69) kd' I' J' P' → Ct yX10_written cX10_written 2 (some .int) d3 0 0 [.ref (o + 69), .int a0] n' kd' I' J' P' (pR (o + 69) n' kd' I' J' P' (some (.int w)) k) := by
  obtain ⟨hF, hM0, hout, hsm⟩ := h
  have hF0 := hF
  obtain ⟨hX, hO, h12, hz, hn, f3, f13, f23, f29, f35, f41, f47, f56, f58, f61, f66, f67, f48⟩ := hF
  have hX0 := hX
  obtain ⟨⟨c0, c1, c2⟩, ⟨s3, s13⟩, ⟨l23, l29, l35⟩, ⟨q41, a47, g56, w58, r61, d66, p67⟩, ⟨e0, e3, e8, e10, e12, e13, e14, e15, e16, e17⟩, ⟨e4, e5, e6, e7⟩, hbs, hfl, ho⟩ := hX
  by_cases hx : a0 < -1 ∨ nI 7 ≤ a0
  · exact ⟨1, 10, 1, 6, 5, 0, nI 0, ⟨by decide, by decide, by decide, by decide, by decide, fun q => absurd q (by decide)⟩, w_written_1 o a0 _ (p_written_no o a0 hF0 hx) c0 hout (by omega), fun n' kd' I' J' P' hF' => q_written_no (o + 69) a0 hF' hx⟩
  by_cases h1 : a0 = -1
  · subst h1
    exact ⟨0, 10, 1, 6, 5, nI 7, nI 7, ⟨by decide, by decide, by decide, by decide, by decide, fun _ => rfl⟩, w_written_0 o (-1) (nI 7) (p_written_l o hF0) c0 hout (by omega), fun n' kd' I' J' P' hF' => q_written_l (o + 69) hF'⟩
  obtain ⟨i, hi, rfl⟩ : ∃ i, i ≤ 6 ∧ a0 = nI i := nI_upTo (by decide) (fun q => by
    have e1 : ¬ a0 < -1 := fun z => hx (Or.inl z)
    rw [Int32.lt_iff_toInt_lt, show (nI 0).toInt = 0 from by decide] at q
    rw [Int32.lt_iff_toInt_lt, show (-1 : Int32).toInt = -1 from by decide] at e1
    exact h1 (Int32.toInt_inj.mp (by rw [show (-1 : Int32).toInt = -1 from by decide]; omega))) (fun q => by
    have e1 : ¬ nI 7 ≤ a0 := fun z => hx (Or.inr z)
    rw [Int32.lt_iff_toInt_lt, show (nI 6).toInt = 6 from by decide] at q
    rw [Int32.le_iff_toInt_le, show (nI 7).toInt = 7 from by decide] at e1
    omega)
  exact ⟨0, 10, 1, 6, 5, byt i, byt i, ⟨by decide, by decide, by decide, by decide, by decide, fun _ => rfl⟩, w_written_0 o (nI i) (byt i) (p_written_b o i hF0 (by omega)) c0 hout (by omega), fun n' kd' I' J' P' hF' => q_written_b (o + 69) i hF' (by omega)⟩
set_option maxHeartbeats 4000000 in
set_option maxRecDepth 100000 in
theorem op_plant (o : Nat) (a0 : Int32) (a1 : Int32) {n : Nat} {kd : mK} {I : mI} {J : mJ} {P : mP} (h : st0 o n kd I J P) : ∃ (k d2 mc ms d3 : Nat) (v w : Int32), (k ≤ 2 ∧ d2 ≤ 64 ∧ mc ≤ 42 ∧ ms ≤ 409612 ∧ d3 ≤ 64 ∧ (k = 0 → v = w)) ∧ CtW [(0, 10, 13, 13)] yL_plant cL_plant 5 (some .int) d2 mc ms [.ref o, .int a0, .int a1, .ref (o + 125)] n kd I J P (pWr o n kd I J P k v.toInt64) ∧ ∀ (n' : Nat) (kd' : mK) (I' : mI) (J' : mJ) (P' : mP), fsM (o + 69) kd' I' J' P' → Ct yX10_plant cX10_plant 3 (some .int) d3 0 0 [.ref (o + 69), .int a0, .int a1] n' kd' I' J' P' (pR (o + 69) n' kd' I' J' P' (some (.int w)) k) := by
  obtain ⟨hF, hM0, hout, hsm⟩ := h
  have hF0 := hF
  obtain ⟨hX, hO, h12, hz, hn, f3, f13, f23, f29, f35, f41, f47, f56, f58, f61, f66, f67, f48⟩ := hF
  have hX0 := hX
  obtain ⟨⟨c0, c1, c2⟩, ⟨s3, s13⟩, ⟨l23, l29, l35⟩, ⟨q41, a47, g56, w58, r61, d66, p67⟩, ⟨e0, e3, e8, e10, e12, e13, e14, e15, e16, e17⟩, ⟨e4, e5, e6, e7⟩, hbs, hfl, ho⟩ := hX
  by_cases hx : a1 < nI 1 ∨ nI 8 < a1
  · exact ⟨1, 10, 1, 6, 3, 0, nI 0, ⟨by decide, by decide, by decide, by decide, by decide, fun q => absurd q (by decide)⟩, w_plant_1 o a0 a1 _ ((c_plant_no o a0 a1 hx).mono (fun _ _ _ _ _ _ hx => pC.sm hx)) c0 hout (by omega), fun n' kd' I' J' P' hF' => (c_plantR_no (o + 69) a0 a1 hF'.1 (wi_no hx)).mono (fun _ _ _ _ _ _ hx => pR.sm hx)⟩
  obtain ⟨H, hH, rfl⟩ : ∃ H, H ≤ 8 ∧ a1 = nI H := nI_upTo (by decide) (fun q => hx (Or.inl (by
    rw [Int32.lt_iff_toInt_lt, show (nI 0).toInt = 0 from by decide] at q
    rw [Int32.lt_iff_toInt_lt, show (nI 1).toInt = 1 from by decide]
    omega))) (fun q => hx (Or.inr q))
  have hH1 : 1 ≤ H := by
    have e : ¬ nI H < nI 1 := fun q => hx (Or.inl q)
    rw [nI_ltI (by omega) (by omega)] at e
    omega
  exact ⟨0, 64, 0, 0, 6, (nI (cnR (sdCs 9 a0) H)), (nI (cnR (sdCs 9 a0) H)), ⟨by decide, by decide, by decide, by decide, by decide, fun _ => rfl⟩, w_plant_0 o a0 (nI H) ((nI (cnR (sdCs 9 a0) H))) ((c_plant o (o + 3) (o + 13) (o + 23) (o + 29) 9 H a0 0 hX0 (by rw [f3.1]; rfl) (by decide) (by decide) hH1 hH (by rw [f3.1]; rfl)).mono (fun _ _ _ _ _ _ hx => ⟨hx.1, ⟨by rw [hx.2.1]; exact Nat.le_refl n, by rw [hx.2.1]; omega⟩, fun a a1 a2 => ⟨by rw [hx.2.2.1], (hx.2.2.2.2 a (by omega)).1, by rw [hx.2.2.2.1], (hx.2.2.2.2 a (by omega)).2⟩⟩)) c0 hout (by omega), fun n' kd' I' J' P' hF' => (c_plantR (o + 69) 9 H a0 hF'.1 (by rw [hF'.2.1]; rfl) (by decide) (by decide) hH1 hH).mono (fun _ _ _ _ _ _ hx => ⟨hx.1, hx.2.1, hx.2.2.1, hx.2.2.2.2.1, hx.2.2.2.2.2, by rw [hx.2.2.2.1]⟩)⟩
theorem tw_eq (x : Int32) : (!decide (x < 0) && decide (x < nI 3)) = (!decide (x < nI 0) && !decide (nI 2 < x)) := by
  have e : decide (x < nI 3) = !decide (nI 2 < x) := by
    rw [← decide_not]
    apply decide_eq_decide.mpr
    rw [Int32.lt_iff_toInt_lt, Int32.lt_iff_toInt_lt, show (nI 3).toInt = 3 from by decide, show (nI 2).toInt = 2 from by decide]
    omega
  rw [e]
  rfl
set_option maxHeartbeats 4000000 in
set_option maxRecDepth 100000 in
theorem op_tried (o : Nat) (a0 : Int32) (a1 : Int32) (a2 : Int32) (a3 : Int32) {n : Nat} {kd : mK} {I : mI} {J : mJ} {P : mP} (h : st0 o n kd I J P) : ∃ (k d2 mc ms d3 : Nat) (v w : Int32), (k ≤ 2 ∧ d2 ≤ 64 ∧ mc ≤ 42 ∧ ms ≤ 409612 ∧ d3 ≤ 64 ∧ (k = 0 → v = w)) ∧ CtW [(0, 14, 17, 18), (0, 14, 21, 13)] yL_tried cL_tried 7 (some .int) d2 mc ms [.ref o, .int a0, .int a1, .int a2, .int a3, .ref (o + 125)] n kd I J P (pWr o n kd I J P k v.toInt64) ∧ ∀ (n' : Nat) (kd' : mK) (I' : mI) (J' : mJ) (P' : mP), fsM (o + 69) kd' I' J' P' → Ct yX10_tried cX10_tried 11 (some .int) d3 0 0 [.ref (o + 69), .int a0, .int a1, .int a2, .int a3] n' kd' I' J' P' (pR (o + 69) n' kd' I' J' P' (some (.int w)) k) := by
  obtain ⟨hF, hM0, hout, hsm⟩ := h
  have hF0 := hF
  obtain ⟨hX, hO, h12, hz, hn, f3, f13, f23, f29, f35, f41, f47, f56, f58, f61, f66, f67, f48⟩ := hF
  have hX0 := hX
  obtain ⟨⟨c0, c1, c2⟩, ⟨s3, s13⟩, ⟨l23, l29, l35⟩, ⟨q41, a47, g56, w58, r61, d66, p67⟩, ⟨e0, e3, e8, e10, e12, e13, e14, e15, e16, e17⟩, ⟨e4, e5, e6, e7⟩, hbs, hfl, ho⟩ := hX
  by_cases h03 : ((!decide (a0 < 0) && decide (a0 < nI 3)) && (!decide (a3 < 0) && decide (a3 < nI 3))) = true
  · have h03' := h03
    rw [Bool.and_eq_true] at h03'
    by_cases hx : a1 < 0 ∨ nI 40 < a1 ∨ a2 < nI 1 ∨ nI 8 < a2
    · exact ⟨2, 64, 42, 409612, 10, 0, nI 0, ⟨by decide, by decide, by decide, by decide, by decide, fun q => absurd q (by decide)⟩, w_tried_2 o a0 a1 a2 a3 _ ((c_tried_iae o a0 a1 a2 a3 c0 h03'.1 h03'.2 hx).mono (fun _ _ _ _ _ _ hx => pC.sm hx)) c0 hout (by omega), fun n' kd' I' J' P' hF' => (c_triedR_2 (o + 69) a0 a1 a2 a3 hF'.1 (by rw [← tw_eq]; exact h03'.1) (by rw [← tw_eq]; exact h03'.2) (by rcases hx with q | q | q | q; rw [wi_no (a := nI 0) (b := nI 40) (Or.inl q)]; rfl; rw [wi_no (a := nI 0) (b := nI 40) (Or.inr q)]; rfl; rw [wi_no (a := nI 1) (b := nI 8) (Or.inl q), Bool.and_false]; rw [wi_no (a := nI 1) (b := nI 8) (Or.inr q), Bool.and_false])).mono (fun _ _ _ _ _ _ hx => pR.sm hx)⟩
    have sp := fun x (hq : (!decide (x < 0) && decide (x < nI 3)) = true) => nI_upTo (x := x) (b := 2) (by decide) (fun q => by rw [tw_eq, wi_no (Or.inl q)] at hq; exact nomatch hq) (fun q => by rw [tw_eq, wi_no (Or.inr q)] at hq; exact nomatch hq)
    obtain ⟨law, hlaw, rfl⟩ := sp a0 h03'.1
    obtain ⟨wh, hwh, rfl⟩ := sp a3 h03'.2
    obtain ⟨S, hS, rfl⟩ : ∃ S, S ≤ 40 ∧ a1 = nI S := nI_upTo (by decide) (fun q => hx (Or.inl q)) (fun q => hx (Or.inr (Or.inl q)))
    obtain ⟨H, hH, rfl⟩ : ∃ H, H ≤ 8 ∧ a2 = nI H := nI_upTo (by decide) (fun q => hx (Or.inr (Or.inr (Or.inl (by
      rw [Int32.lt_iff_toInt_lt, show (nI 0).toInt = 0 from by decide] at q
      rw [Int32.lt_iff_toInt_lt, show (nI 1).toInt = 1 from by decide]
      omega))))) (fun q => hx (Or.inr (Or.inr (Or.inr q))))
    have hH1 : 1 ≤ H := by
      have e : ¬ nI H < nI 1 := fun q => hx (Or.inr (Or.inr (Or.inl q)))
      rw [nI_ltI (by omega) (by omega)] at e
      omega
    exact ⟨0, 64, 42, 409612, 10, (trV law H 9 false S wh), (trV law H 9 false S wh), ⟨by decide, by decide, by decide, by decide, by decide, fun _ => rfl⟩, w_tried_0 o (nI law) (nI S) (nI H) (nI wh) ((trV law H 9 false S wh)) ((c_tried o (o + 3) (o + 13) (o + 23) (o + 29) 9 H law S wh 0 (by decide) (by decide) hH1 hH hlaw hwh hS (by omega) (by omega) hX0 (by rw [f3.1]; rfl) (by rw [f3.1]; rfl) (Or.inl hz)).mono (fun _ _ _ _ _ _ hx => ⟨hx.1, hx.2.1, fun a a1 a2 => ⟨hx.2.2.2.2.2.2.1 a a2, hx.2.2.2.2.2.2.2.1 a a2 (by omega) (by omega) (by omega) (by omega) (by omega) (by rw [hz]; exact fun q => nomatch q), hx.2.2.2.2.2.2.2.2.2.1 a a2 (by omega), hx.2.2.2.2.2.2.2.2.2.2.1 a a2 (by omega) (by omega) (by omega)⟩⟩)) c0 hout (by omega), fun n' kd' I' J' P' hF' => (c_triedR (o + 69) 9 H law S wh false hF'.1 (by decide) (by decide) hH1 hH hlaw hwh hS (by rw [hF'.2.1]; rfl) (by rw [hF'.2.1]; rfl) (by rw [hF'.2.1]; rfl) (by rw [hF'.2.1]; rfl)).mono (fun _ _ _ _ _ _ hx => ⟨hx.1, hx.2.1, hx.2.2.1, hx.2.2.2.1, hx.2.2.2.2.2, (hx.2.2.2.2.1 (o + 69 + 56) (by omega)).2⟩)⟩
  · have hf : ((!decide (a0 < 0) && decide (a0 < nI 3)) && (!decide (a3 < 0) && decide (a3 < nI 3))) = false := by simpa using h03
    exact ⟨1, 64, 42, 409612, 10, 0, nI 0, ⟨by decide, by decide, by decide, by decide, by decide, fun q => absurd q (by decide)⟩, w_tried_1 o a0 a1 a2 a3 _ ((c_tried_nse o a0 a1 a2 a3 c0 hf).mono (fun _ _ _ _ _ _ hx => pC.sm hx)) c0 hout (by omega), fun n' kd' I' J' P' hF' => (c_triedR_1 (o + 69) a0 a1 a2 a3 hF'.1 (by rw [← tw_eq, ← tw_eq]; exact hf)).mono (fun _ _ _ _ _ _ hx => pR.sm hx)⟩
set_option maxHeartbeats 4000000 in
set_option maxRecDepth 100000 in
theorem op_numberings (o : Nat) {n : Nat} {kd : mK} {I : mI} {J : mJ} {P : mP} (h : st0 o n kd I J P) : ∃ (d2 mc ms d3 : Nat) (v : Int32), (d2 ≤ 64 ∧ mc ≤ 42 ∧ ms ≤ 409612 ∧ d3 ≤ 64) ∧ Ct yX9_numberings cX9_numberings 1 (some .int) d2 mc ms [.ref o] n kd I J P (pC o n kd I J P (.inl (some (.int v)))) ∧ ∀ (n' : Nat) (kd' : mK) (I' : mI) (J' : mJ) (P' : mP), fsM (o + 69) kd' I' J' P' → Ct yX10_numberings cX10_numberings 1 (some .int) d3 0 0 [.ref (o + 69)] n' kd' I' J' P' (pR (o + 69) n' kd' I' J' P' (some (.int v)) 0) := by
  obtain ⟨hF, hM0, hout, hsm⟩ := h
  have hF0 := hF
  obtain ⟨hX, hO, h12, hz, hn, f3, f13, f23, f29, f35, f41, f47, f56, f58, f61, f66, f67, f48⟩ := hF
  have hX0 := hX
  obtain ⟨⟨c0, c1, c2⟩, ⟨s3, s13⟩, ⟨l23, l29, l35⟩, ⟨q41, a47, g56, w58, r61, d66, p67⟩, ⟨e0, e3, e8, e10, e12, e13, e14, e15, e16, e17⟩, ⟨e4, e5, e6, e7⟩, hbs, hfl, ho⟩ := hX
  exact ⟨9, 0, 0, 7, (nI 1), ⟨by decide, by decide, by decide, by decide⟩, (c_X9_numberings o (o + 3) (o + 23) 0 9 0 (fun h => lkm 0 (cs0 h)) cs0 false so0 (I (o + 23 + 1)) (I (o + 23 + 2)) res0 c0 e10 e4 e6 s3 l23 q41 (by omega) (by omega) (by omega) (by omega) (by decide) (by decide) (fs_cl hF0) (sk_0 _ _ _) (by rw [hO]; rfl)).mono (fun _ n1 _ _ _ _ hx => ⟨hx.1, ⟨by rw [hx.2.1]; exact Nat.le_refl n, by rw [hx.2.1]; omega⟩, fun a a1 a2 => ⟨by rw [hx.2.2.1], hx.2.2.2.1 a (by omega) (by omega) (by omega), hx.2.2.2.2.2.1 a (by omega), hx.2.2.2.2.2.2.1 a (by omega)⟩⟩), fun n' kd' I' J' P' hF' => (c_X10_numberings (o + 69) 0 9 0 (fun h => lkm 0 (cs0 h)) cs0 false (I' (o + 69 + 24)) (I' (o + 69 + 1)) (I' (o + 69 + 2)) (fun k => !(cs0 k).isEmpty) res0 (fs_rf hF') (by decide) (by decide) (fun k hk => absurd hk (by omega)) (sk_0 _ _ _)).mono (fun _ _ _ _ _ _ hx => ⟨hx.1, hx.2.1, hx.2.2.1, hx.2.2.2.2.1, hx.2.2.2.2.2.1, by rw [hx.2.2.2.1]⟩)⟩
set_option maxHeartbeats 4000000 in
set_option maxRecDepth 100000 in
theorem op_tries (o : Nat) {n : Nat} {kd : mK} {I : mI} {J : mJ} {P : mP} (h : st0 o n kd I J P) : ∃ (d2 mc ms d3 : Nat) (v : Int32), (d2 ≤ 64 ∧ mc ≤ 42 ∧ ms ≤ 409612 ∧ d3 ≤ 64) ∧ Ct yX9_tries cX9_tries 1 (some .int) d2 mc ms [.ref o] n kd I J P (pC o n kd I J P (.inl (some (.int v)))) ∧ ∀ (n' : Nat) (kd' : mK) (I' : mI) (J' : mJ) (P' : mP), fsM (o + 69) kd' I' J' P' → Ct yX10_tries cX10_tries 1 (some .int) d3 0 0 [.ref (o + 69)] n' kd' I' J' P' (pR (o + 69) n' kd' I' J' P' (some (.int v)) 0) := by
  obtain ⟨hF, hM0, hout, hsm⟩ := h
  have hF0 := hF
  obtain ⟨hX, hO, h12, hz, hn, f3, f13, f23, f29, f35, f41, f47, f56, f58, f61, f66, f67, f48⟩ := hF
  have hX0 := hX
  obtain ⟨⟨c0, c1, c2⟩, ⟨s3, s13⟩, ⟨l23, l29, l35⟩, ⟨q41, a47, g56, w58, r61, d66, p67⟩, ⟨e0, e3, e8, e10, e12, e13, e14, e15, e16, e17⟩, ⟨e4, e5, e6, e7⟩, hbs, hfl, ho⟩ := hX
  exact ⟨9, 0, 0, 7, (nI 0), ⟨by decide, by decide, by decide, by decide⟩, (c_X9_tries o (o + 3) (o + 23) 0 9 0 (fun h => lkm 0 (cs0 h)) cs0 false so0 (I (o + 23 + 1)) (I (o + 23 + 2)) res0 c0 e10 e4 e6 s3 l23 q41 (by omega) (by omega) (by omega) (by omega) (by decide) (by decide) (fs_cl hF0) (sk_0 _ _ _) (by rw [hO]; rfl)).mono (fun _ n1 _ _ _ _ hx => ⟨hx.1, ⟨by rw [hx.2.1]; exact Nat.le_refl n, by rw [hx.2.1]; omega⟩, fun a a1 a2 => ⟨by rw [hx.2.2.1], hx.2.2.2.1 a (by omega) (by omega) (by omega), hx.2.2.2.2.2.1 a (by omega), hx.2.2.2.2.2.2.1 a (by omega)⟩⟩), fun n' kd' I' J' P' hF' => (c_X10_tries (o + 69) 0 9 0 (fun h => lkm 0 (cs0 h)) cs0 false (I' (o + 69 + 24)) (I' (o + 69 + 1)) (I' (o + 69 + 2)) (fun k => !(cs0 k).isEmpty) res0 (fs_rf hF') (by decide) (by decide) (fun k hk => absurd hk (by omega)) (sk_0 _ _ _)).mono (fun _ _ _ _ _ _ hx => ⟨hx.1, hx.2.1, hx.2.2.1, hx.2.2.2.2.1, hx.2.2.2.2.2.1, by rw [hx.2.2.2.1]⟩)⟩
set_option maxHeartbeats 4000000 in
set_option maxRecDepth 100000 in
theorem op_fault (o : Nat) {n : Nat} {kd : mK} {I : mI} {J : mJ} {P : mP} (h : st0 o n kd I J P) : ∃ (d2 mc ms d3 : Nat) (v : Int32), (d2 ≤ 64 ∧ mc ≤ 42 ∧ ms ≤ 409612 ∧ d3 ≤ 64) ∧ Ct yX9_fault cX9_fault 1 (some .int) d2 mc ms [.ref o] n kd I J P (pC o n kd I J P (.inl (some (.int v)))) ∧ ∀ (n' : Nat) (kd' : mK) (I' : mI) (J' : mJ) (P' : mP), fsM (o + 69) kd' I' J' P' → Ct yX10_fault cX10_fault 1 (some .int) d3 0 0 [.ref (o + 69)] n' kd' I' J' P' (pR (o + 69) n' kd' I' J' P' (some (.int v)) 0) := by
  obtain ⟨hF, hM0, hout, hsm⟩ := h
  have hF0 := hF
  obtain ⟨hX, hO, h12, hz, hn, f3, f13, f23, f29, f35, f41, f47, f56, f58, f61, f66, f67, f48⟩ := hF
  have hX0 := hX
  obtain ⟨⟨c0, c1, c2⟩, ⟨s3, s13⟩, ⟨l23, l29, l35⟩, ⟨q41, a47, g56, w58, r61, d66, p67⟩, ⟨e0, e3, e8, e10, e12, e13, e14, e15, e16, e17⟩, ⟨e4, e5, e6, e7⟩, hbs, hfl, ho⟩ := hX
  exact ⟨1, 0, 0, 1, (-1), ⟨by decide, by decide, by decide, by decide⟩, (by have hc := c_X9_fault (n := n) (I := I) (J := J) (P := P) o c0; rw [show I o 2 = -1 from by rw [hO]; rfl] at hc; exact hc.mono (fun _ _ _ _ _ _ hx => pC.sm hx)), fun n' kd' I' J' P' hF' => (by have hc := c_X10_fault (n := n') (I := I') (J := J') (o + 69) hF'.1; rw [show I' (o + 69) 17 = -1 from by rw [hF'.2.1]; rfl] at hc; exact hc.mono (fun _ _ _ _ _ _ hx => pR.sm hx))⟩
set_option maxHeartbeats 4000000 in
set_option maxRecDepth 100000 in
theorem op_undo (o : Nat) {n : Nat} {kd : mK} {I : mI} {J : mJ} {P : mP} (h : st0 o n kd I J P) : ∃ (d2 mc ms d3 : Nat) (v : Int32), (d2 ≤ 64 ∧ mc ≤ 42 ∧ ms ≤ 409612 ∧ d3 ≤ 64) ∧ Ct yX9_undo cX9_undo 1 (some .int) d2 mc ms [.ref o] n kd I J P (pC o n kd I J P (.inl (some (.int v)))) ∧ ∀ (n' : Nat) (kd' : mK) (I' : mI) (J' : mJ) (P' : mP), fsM (o + 69) kd' I' J' P' → Ct yX10_undo cX10_undo 1 (some .int) d3 0 0 [.ref (o + 69)] n' kd' I' J' P' (pR (o + 69) n' kd' I' J' P' (some (.int v)) 0) := by
  obtain ⟨hF, hM0, hout, hsm⟩ := h
  have hF0 := hF
  obtain ⟨hX, hO, h12, hz, hn, f3, f13, f23, f29, f35, f41, f47, f56, f58, f61, f66, f67, f48⟩ := hF
  have hX0 := hX
  obtain ⟨⟨c0, c1, c2⟩, ⟨s3, s13⟩, ⟨l23, l29, l35⟩, ⟨q41, a47, g56, w58, r61, d66, p67⟩, ⟨e0, e3, e8, e10, e12, e13, e14, e15, e16, e17⟩, ⟨e4, e5, e6, e7⟩, hbs, hfl, ho⟩ := hX
  exact ⟨9, 1, 6, 3, (-1), ⟨by decide, by decide, by decide, by decide⟩, (n_X9_undo o (o + 23) c0 l23.1 e6 (by rw [f23.1]; rfl)).mono (fun _ _ _ _ _ _ hx => pC.sm hx), fun n' kd' I' J' P' hF' => (n_X10_undo (o + 69) hF'.1 (by rw [hF'.2.1]; rfl)).mono (fun _ _ _ _ _ _ hx => pR.sm hx)⟩
set_option maxHeartbeats 4000000 in
set_option maxRecDepth 100000 in
theorem op_unletter (o : Nat) {n : Nat} {kd : mK} {I : mI} {J : mJ} {P : mP} (h : st0 o n kd I J P) : ∃ (d2 mc ms d3 : Nat) (v : Int32), (d2 ≤ 64 ∧ mc ≤ 42 ∧ ms ≤ 409612 ∧ d3 ≤ 64) ∧ Ct yX9_unletter cX9_unletter 1 (some .int) d2 mc ms [.ref o] n kd I J P (pC o n kd I J P (.inl (some (.int v)))) ∧ ∀ (n' : Nat) (kd' : mK) (I' : mI) (J' : mJ) (P' : mP), fsM (o + 69) kd' I' J' P' → Ct yX10_unletter cX10_unletter 1 (some .int) d3 0 0 [.ref (o + 69)] n' kd' I' J' P' (pR (o + 69) n' kd' I' J' P' (some (.int v)) 0) := by
  obtain ⟨hF, hM0, hout, hsm⟩ := h
  have hF0 := hF
  obtain ⟨hX, hO, h12, hz, hn, f3, f13, f23, f29, f35, f41, f47, f56, f58, f61, f66, f67, f48⟩ := hF
  have hX0 := hX
  obtain ⟨⟨c0, c1, c2⟩, ⟨s3, s13⟩, ⟨l23, l29, l35⟩, ⟨q41, a47, g56, w58, r61, d66, p67⟩, ⟨e0, e3, e8, e10, e12, e13, e14, e15, e16, e17⟩, ⟨e4, e5, e6, e7⟩, hbs, hfl, ho⟩ := hX
  exact ⟨9, 1, 6, 3, (-1), ⟨by decide, by decide, by decide, by decide⟩, (n_X9_unletter o (o + 23) c0 l23.1 e6 (by rw [f23.1]; rfl)).mono (fun _ _ _ _ _ _ hx => pC.sm hx), fun n' kd' I' J' P' hF' => (n_X10_unletter (o + 69) hF'.1 (by rw [hF'.2.1]; rfl)).mono (fun _ _ _ _ _ _ hx => pR.sm hx)⟩
set_option maxHeartbeats 4000000 in
set_option maxRecDepth 100000 in
theorem op_restore (o : Nat) {n : Nat} {kd : mK} {I : mI} {J : mJ} {P : mP} (h : st0 o n kd I J P) : ∃ (d2 mc ms d3 : Nat) (v : Int32), (d2 ≤ 64 ∧ mc ≤ 42 ∧ ms ≤ 409612 ∧ d3 ≤ 64) ∧ Ct yX9_restore cX9_restore 1 (some .boolean) d2 mc ms [.ref o] n kd I J P (pC o n kd I J P (.inl (some (.int v)))) ∧ ∀ (n' : Nat) (kd' : mK) (I' : mI) (J' : mJ) (P' : mP), fsM (o + 69) kd' I' J' P' → Ct yX10_restore cX10_restore 1 (some .boolean) d3 0 0 [.ref (o + 69)] n' kd' I' J' P' (pR (o + 69) n' kd' I' J' P' (some (.int v)) 0) := by
  obtain ⟨hF, hM0, hout, hsm⟩ := h
  have hF0 := hF
  obtain ⟨hX, hO, h12, hz, hn, f3, f13, f23, f29, f35, f41, f47, f56, f58, f61, f66, f67, f48⟩ := hF
  have hX0 := hX
  obtain ⟨⟨c0, c1, c2⟩, ⟨s3, s13⟩, ⟨l23, l29, l35⟩, ⟨q41, a47, g56, w58, r61, d66, p67⟩, ⟨e0, e3, e8, e10, e12, e13, e14, e15, e16, e17⟩, ⟨e4, e5, e6, e7⟩, hbs, hfl, ho⟩ := hX
  exact ⟨9, 1, 6, 3, (nI 0), ⟨by decide, by decide, by decide, by decide⟩, (n_X9_restore o c0 (by rw [hO]; rfl)).mono (fun _ _ _ _ _ _ hx => pC.sm hx), fun n' kd' I' J' P' hF' => (n_X10_restore (o + 69) hF'.1 (by rw [hF'.2.1]; rfl)).mono (fun _ _ _ _ _ _ hx => pR.sm hx)⟩
set_option maxHeartbeats 4000000 in
set_option maxRecDepth 100000 in
theorem op_doors (o : Nat) {n : Nat} {kd : mK} {I : mI} {J : mJ} {P : mP} (h : st0 o n kd I J P) : ∃ (d2 mc ms d3 : Nat) (v : Int32), (d2 ≤ 64 ∧ mc ≤ 42 ∧ ms ≤ 409612 ∧ d3 ≤ 64) ∧ Ct yX9_doors cX9_doors 1 (some .int) d2 mc ms [.ref o] n kd I J P (pC o n kd I J P (.inl (some (.int v)))) ∧ ∀ (n' : Nat) (kd' : mK) (I' : mI) (J' : mJ) (P' : mP), fsM (o + 69) kd' I' J' P' → Ct yX10_doors cX10_doors 1 (some .int) d3 0 0 [.ref (o + 69)] n' kd' I' J' P' (pR (o + 69) n' kd' I' J' P' (some (.int v)) 0) := by
  obtain ⟨hF, hM0, hout, hsm⟩ := h
  have hF0 := hF
  obtain ⟨hX, hO, h12, hz, hn, f3, f13, f23, f29, f35, f41, f47, f56, f58, f61, f66, f67, f48⟩ := hF
  have hX0 := hX
  obtain ⟨⟨c0, c1, c2⟩, ⟨s3, s13⟩, ⟨l23, l29, l35⟩, ⟨q41, a47, g56, w58, r61, d66, p67⟩, ⟨e0, e3, e8, e10, e12, e13, e14, e15, e16, e17⟩, ⟨e4, e5, e6, e7⟩, hbs, hfl, ho⟩ := hX
  exact ⟨10, 0, 0, 9, (nI 0), ⟨by decide, by decide, by decide, by decide⟩, p_doors o hF0, fun n' kd' I' J' P' hF' => q_doors (o + 69) hF'⟩
set_option maxHeartbeats 4000000 in
set_option maxRecDepth 100000 in
theorem op_knot (o : Nat) {n : Nat} {kd : mK} {I : mI} {J : mJ} {P : mP} (h : st0 o n kd I J P) : ∃ (d2 mc ms d3 : Nat) (v : Int32), (d2 ≤ 64 ∧ mc ≤ 42 ∧ ms ≤ 409612 ∧ d3 ≤ 64) ∧ Ct yX9_knot cX9_knot 1 (some .int) d2 mc ms [.ref o] n kd I J P (pC o n kd I J P (.inl (some (.int v)))) ∧ ∀ (n' : Nat) (kd' : mK) (I' : mI) (J' : mJ) (P' : mP), fsM (o + 69) kd' I' J' P' → Ct yX10_knot cX10_knot 1 (some .int) d3 0 0 [.ref (o + 69)] n' kd' I' J' P' (pR (o + 69) n' kd' I' J' P' (some (.int v)) 0) := by
  obtain ⟨hF, hM0, hout, hsm⟩ := h
  have hF0 := hF
  obtain ⟨hX, hO, h12, hz, hn, f3, f13, f23, f29, f35, f41, f47, f56, f58, f61, f66, f67, f48⟩ := hF
  have hX0 := hX
  obtain ⟨⟨c0, c1, c2⟩, ⟨s3, s13⟩, ⟨l23, l29, l35⟩, ⟨q41, a47, g56, w58, r61, d66, p67⟩, ⟨e0, e3, e8, e10, e12, e13, e14, e15, e16, e17⟩, ⟨e4, e5, e6, e7⟩, hbs, hfl, ho⟩ := hX
  exact ⟨9, 0, 0, 7, (kn2 (RK false so0 0 0 9 (fun h => lkm 0 (cs0 h)) (tvN so0 so0 (nI 9) 0 cs0)) 0 256 9 0), ⟨by decide, by decide, by decide, by decide⟩, by have hc := c_X9_knot (n := n) (J := J) o (o + 3) (o + 23) 0 9 0 0 (fun h => lkm 0 (cs0 h)) cs0 false so0 (I (o + 23 + 1)) (I (o + 23 + 2)) (by decide) (by decide) (by decide) c0 e12 e4 e6 ⟨⟨a47.1, a47.2.2.2.2.1, by omega⟩, s3, l23, a47.2.1, by omega, by omega, by omega, fs_cl hF0⟩ (by rw [f3.1, f23.1]; decide); rw [kn_same _ (by decide)] at hc; exact hc.mono (fun _ _ _ _ _ _ hx => ⟨hx.1, ⟨by rw [hx.2.1]; exact Nat.le_refl n, by rw [hx.2.1]; omega⟩, fun a a1 a2 => ⟨by rw [hx.2.2.1], hx.2.2.2.1 a (by omega) (by omega), hx.2.2.2.2.1 a (by omega), hx.2.2.2.2.2.1 a (by omega)⟩⟩), fun n' kd' I' J' P' hF' => (c_X10_knot (o + 69) 0 9 0 (fun h => lkm 0 (cs0 h)) cs0 false (I' (o + 69 + 24)) (I' (o + 69 + 1)) (I' (o + 69 + 2)) (fun k => !(cs0 k).isEmpty) 0 (fs_rf hF') (by decide) (by decide) (by decide) (fun k hk => absurd hk (by omega)) rfl).mono (fun _ _ _ _ _ _ hx => ⟨hx.1, hx.2.1, hx.2.2.1, hx.2.2.2.2.1, by rw [hx.2.2.2.2.2.2 0 (by decide) (by decide), am_up_s, am_up_s], by rw [hx.2.2.2.1]⟩)⟩
set_option maxHeartbeats 4000000 in
set_option maxRecDepth 100000 in
theorem op_liars (o : Nat) {n : Nat} {kd : mK} {I : mI} {J : mJ} {P : mP} (h : st0 o n kd I J P) : ∃ (d2 mc ms d3 : Nat) (v : Int32), (d2 ≤ 64 ∧ mc ≤ 42 ∧ ms ≤ 409612 ∧ d3 ≤ 64) ∧ Ct yX9_liars cX9_liars 1 (some .int) d2 mc ms [.ref o] n kd I J P (pC o n kd I J P (.inl (some (.int v)))) ∧ ∀ (n' : Nat) (kd' : mK) (I' : mI) (J' : mJ) (P' : mP), fsM (o + 69) kd' I' J' P' → Ct yX10_liars cX10_liars 4 (some .int) d3 0 0 [.ref (o + 69)] n' kd' I' J' P' (pR (o + 69) n' kd' I' J' P' (some (.int v)) 0) := by
  obtain ⟨hF, hM0, hout, hsm⟩ := h
  have hF0 := hF
  obtain ⟨hX, hO, h12, hz, hn, f3, f13, f23, f29, f35, f41, f47, f56, f58, f61, f66, f67, f48⟩ := hF
  have hX0 := hX
  obtain ⟨⟨c0, c1, c2⟩, ⟨s3, s13⟩, ⟨l23, l29, l35⟩, ⟨q41, a47, g56, w58, r61, d66, p67⟩, ⟨e0, e3, e8, e10, e12, e13, e14, e15, e16, e17⟩, ⟨e4, e5, e6, e7⟩, hbs, hfl, ho⟩ := hX
  exact ⟨9, 0, 0, 6, (kl2 (RLi false so0 0 0 9 (fun h => lkm 0 (cs0 h)) (tvN so0 so0 (nI 9) 0 cs0) 0) 0 256 9 0), ⟨by decide, by decide, by decide, by decide⟩, by have hc := c_X9_liars (n := n) (J := J) o (o + 3) (o + 23) 0 9 0 0 (fun h => lkm 0 (cs0 h)) cs0 false so0 (I (o + 23 + 1)) (I (o + 23 + 2)) (by decide) (by decide) (by decide) c0 e12 e4 e6 ⟨⟨a47.1, a47.2.2.2.2.1, by omega⟩, s3, l23, a47.2.1, by omega, by omega, by omega, fs_cl hF0⟩ (by rw [f3.1, f23.1]; decide); rw [kl_same _ (by decide)] at hc; exact hc.mono (fun _ _ _ _ _ _ hx => ⟨hx.1, ⟨by rw [hx.2.1]; exact Nat.le_refl n, by rw [hx.2.1]; omega⟩, fun a a1 a2 => ⟨by rw [hx.2.2.1], hx.2.2.2.1 a (by omega) (by omega), hx.2.2.2.2.1 a (by omega), hx.2.2.2.2.2.1 a (by omega)⟩⟩), fun n' kd' I' J' P' hF' => (c_X10_liars (o + 69) 0 9 0 (fun h => lkm 0 (cs0 h)) cs0 false (I' (o + 69 + 24)) (I' (o + 69 + 1)) (I' (o + 69 + 2)) (fun k => !(cs0 k).isEmpty) 0 (fs_rf hF') (by decide) (by decide) (by decide) (fun k hk => absurd hk (by omega)) rfl).mono (fun _ _ _ _ _ _ hx => ⟨hx.1, hx.2.1, hx.2.2.1, hx.2.2.2.2.1, by rw [hx.2.2.2.2.2.2 0 (by decide) (by decide), am_up_s, am_up_s], by rw [hx.2.2.2.1]⟩)⟩
set_option maxHeartbeats 4000000 in
set_option maxRecDepth 100000 in
theorem op_feed (o : Nat) (a0 a1 a2 a3 a4 : Int32) {n : Nat} {kd : mK} {I : mI} {J : mJ} {P : mP} (h : st0 o n kd I J P) : ∃ (d2 mc ms d3 : Nat) (v : Int32), (d2 ≤ 64 ∧ mc ≤ 42 ∧ ms ≤ 409612 ∧ d3 ≤ 64) ∧ Ct yX9_feed cX9_feed 6 (some .int) d2 mc ms [.ref o, .int a0, .int a1, .int a2, .int a3, .int a4] n kd I J P (pC o n kd I J P (.inl (some (.int v)))) ∧ ∀ (n' : Nat) (kd' : mK) (I' : mI) (J' : mJ) (P' : mP), fsM (o + 69) kd' I' J' P' → Ct yX10_feed cX10_feed 6 (some .int) d3 0 0 [.ref (o + 69), .int a0, .int a1, .int a2, .int a3, .int a4] n' kd' I' J' P' (pR (o + 69) n' kd' I' J' P' (some (.int v)) 0) := by
  obtain ⟨hF, hM0, hout, hsm⟩ := h
  have hF0 := hF
  obtain ⟨hX, hO, h12, hz, hn, f3, f13, f23, f29, f35, f41, f47, f56, f58, f61, f66, f67, f48⟩ := hF
  have hX0 := hX
  obtain ⟨⟨c0, c1, c2⟩, ⟨s3, s13⟩, ⟨l23, l29, l35⟩, ⟨q41, a47, g56, w58, r61, d66, p67⟩, ⟨e0, e3, e8, e10, e12, e13, e14, e15, e16, e17⟩, ⟨e4, e5, e6, e7⟩, hbs, hfl, ho⟩ := hX
  exact ⟨2, 0, 0, 2, (nI (0 + 20)), ⟨by decide, by decide, by decide, by decide⟩, (c_X9_feed o 0 a0 a1 a2 a3 a4 c0 c1 e0 (by rw [hO]; rfl) (by decide)).mono (fun _ _ _ _ _ _ hx => ⟨hx.1, ⟨by rw [hx.2.1]; exact Nat.le_refl n, by rw [hx.2.1]; omega⟩, fun a a1 a2 => ⟨by rw [hx.2.2.1], by rw [hx.2.2.2.1]; unfold tpI; rw [am_up_n _ _ (by omega), am_up_n _ _ (by omega)], by rw [hx.2.2.2.2.1], by rw [hx.2.2.2.2.2]⟩⟩), fun n' kd' I' J' P' hF' => (c_X10_feed (o + 69) 0 a0 a1 a2 a3 a4 hF'.1 (by rw [hF'.2.1]; rfl) (by decide)).mono (fun _ _ _ _ _ _ hx => ⟨hx.1, hx.2.1, hx.2.2.1, hx.2.2.2.2.2, by rw [hx.2.2.2.1]; unfold tpI; rw [am_up_s, am_up_n _ _ (by decide), am_up_s, am_up_s], by rw [hx.2.2.2.2.1]⟩)⟩

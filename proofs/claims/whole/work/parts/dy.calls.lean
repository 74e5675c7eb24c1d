/-! ONE CALL OF THE LAW ON ANY STATE -/
def stW (o n : Nat) (kd : mK) (I : mI) (J : mJ) (P : mP) : Prop := Nx o n kd I J P ∧ kd (o + 125) = some (4, 1) ∧ o + 125 < n
def Nq (o : Nat) (C : Nat → mK → mI → mJ → mP → Prop) (D : mK → mI → mP → Prop) : Prop := Tr o C ∧ ∀ n2 kd2 I2 J2 P2, C n2 kd2 I2 J2 P2 → D kd2 I2 P2 → Nx o n2 kd2 I2 J2 P2
theorem stW.k {o n : Nat} {kd : mK} {I : mI} {J : mJ} {P : mP} (h : stW o n kd I J P) : kd o = some (0, 9) ∧ kM kd P (o + 69) := by
  obtain ⟨⟨t, T, fp, rr, H, M, un, cs, tx, e, im, wk, hok, ⟨b, s, f, l, hC⟩, hR⟩, hout, ho9⟩ := h
  exact ⟨hC.1.1.1, hR.1⟩
theorem stW.m {o n : Nat} {kd kd1 : mK} {I I1 : mI} {J : mJ} {P P1 : mP} (h : stW o n kd I J P) (hs : sameM (o + 69) kd kd1 I I1 P P1) : kM kd1 P1 (o + 69) := by
  obtain ⟨⟨t, T, fp, rr, H, M, un, cs, tx, e, im, wk, hok, ⟨b, s, f, l, hC⟩, hR⟩, hout, ho9⟩ := h
  exact (hR.fr hs).1
theorem Nq.on {o n : Nat} {kd : mK} {I I' : mI} {J J' : mJ} {P : mP} {C : Nat → mK → mI → mJ → mP → Prop} {D : mK → mI → mP → Prop} (h : Nq o C D) (hC : C n kd I J P) (hf : ∀ a, (a < o + 69 ∨ o + 69 + 55 < a) → I' a = I a ∧ J' a = J a) (hD : D kd I' P) : Nx o n kd I' J' P := h.2 _ _ _ _ _ (h.1 _ _ _ _ _ _ _ (fun a ha => hf a (Or.inl ha)) hC) hD
set_option maxHeartbeats 4000000 in
set_option maxRecDepth 100000 in
theorem ow_feed (o : Nat) (a0 : Int32) (a1 : Int32) (a2 : Int32) (a3 : Int32) (a4 : Int32) {n : Nat} {kd : mK} {I : mI} {J : mJ} {P : mP} (h : stW o n kd I J P) (hn9 : n < 900000) : ∃ (d2 mc ms d3 : Nat) (v w : Int32) (C : Nat → mK → mI → mJ → mP → Prop) (D : mK → mI → mP → Prop), (d2 ≤ 63 ∧ mc ≤ 1 ∧ ms ≤ 10240 ∧ d3 ≤ 63 ∧ v = w) ∧ Ct yX9_feed cX9_feed 6 (some .int) d2 mc ms [.ref o, .int a0, .int a1, .int a2, .int a3, .int a4] n kd I J P (pK o n kd I J P (.inl (some (.int v))) C) ∧ (∀ n1 kd1 I1 J1 P1, sameM (o + 69) kd kd1 I I1 P P1 → Ct yX10_feed cX10_feed 6 (some .int) d3 0 0 [.ref (o + 69), .int a0, .int a1, .int a2, .int a3, .int a4] n1 kd1 I1 J1 P1 (pQ (o + 69) n1 kd1 I1 J1 P1 (some (.int w)) 0 D)) ∧ Nq o C D := by
  obtain ⟨⟨t, T, fp, rr, H, M, un, cs, tx, e, im, wk, hok, ⟨b, s, f, l, hC⟩, hR⟩, hout, ho9⟩ := h
  obtain ⟨k, d, mc, ms, d3, v, w, C, D, ⟨b1, b2, b3, b4, b5, b6, b7⟩, hT, hc, hq, hn⟩ := pr_feed o b s f l a0 a1 a2 a3 a4 hC hok hR
  have hko := hC.1.1.1
  obtain rfl : k = 0 := by omega
  exact ⟨d, mc, ms, d3, v, w, C, D, ⟨b2, b3, b4, b5, b6 rfl⟩, hc, hq, hT, hn⟩

set_option maxHeartbeats 4000000 in
set_option maxRecDepth 100000 in
theorem ow_street (o : Nat) (a0 : Int32) {n : Nat} {kd : mK} {I : mI} {J : mJ} {P : mP} (h : stW o n kd I J P) (hn9 : n < 900000) : ∃ (k d2 mc ms d3 : Nat) (v w : Int32) (C : Nat → mK → mI → mJ → mP → Prop) (D : mK → mI → mP → Prop), (k ≤ 2 ∧ d2 ≤ 64 ∧ mc ≤ 1 ∧ ms ≤ 10240 ∧ d3 ≤ 63 ∧ (k = 0 → v = w)) ∧ CtW [(0, 9, 12, 13)] yL_street cL_street 4 (some .int) d2 mc ms [.ref o, .int a0, .ref (o + 125)] n kd I J P (pWv o n kd I J P k v.toInt64 C) ∧ (∀ n1 kd1 I1 J1 P1, sameM (o + 69) kd kd1 I I1 P P1 → Ct yX10_street cX10_street 3 (some .int) d3 0 0 [.ref (o + 69), .int a0] n1 kd1 I1 J1 P1 (pQ (o + 69) n1 kd1 I1 J1 P1 (some (.int w)) k D)) ∧ Nq o C D := by
  obtain ⟨⟨t, T, fp, rr, H, M, un, cs, tx, e, im, wk, hok, ⟨b, s, f, l, hC⟩, hR⟩, hout, ho9⟩ := h
  obtain ⟨k, d, mc, ms, d3, v, w, C, D, ⟨b1, b2, b3, b4, b5, b6, b7⟩, hT, hc, hq, hn⟩ := pr_street o b s f l a0 hC hok hR
  have hko := hC.1.1.1
  rcases (show k = 0 ∨ k = 1 by omega) with rfl | rfl
  · exact ⟨0, d + 1, mc, ms, d3, v, w, C, D, ⟨by omega, by omega, b3, b4, b5, b6⟩, v_street_0 o a0 v hT hc hko hout, hq, hT, hn⟩
  · exact ⟨1, d + 1, mc, ms, d3, v, w, C, D, ⟨by omega, by omega, b3, b4, b5, b6⟩, v_street_1 o a0 _ hT hc hko hout, hq, hT, hn⟩

set_option maxHeartbeats 4000000 in
set_option maxRecDepth 100000 in
theorem ow_fault (o : Nat) {n : Nat} {kd : mK} {I : mI} {J : mJ} {P : mP} (h : stW o n kd I J P) (hn9 : n < 900000) : ∃ (d2 mc ms d3 : Nat) (v w : Int32) (C : Nat → mK → mI → mJ → mP → Prop) (D : mK → mI → mP → Prop), (d2 ≤ 63 ∧ mc ≤ 1 ∧ ms ≤ 10240 ∧ d3 ≤ 63 ∧ v = w) ∧ Ct yX9_fault cX9_fault 1 (some .int) d2 mc ms [.ref o] n kd I J P (pK o n kd I J P (.inl (some (.int v))) C) ∧ (∀ n1 kd1 I1 J1 P1, sameM (o + 69) kd kd1 I I1 P P1 → Ct yX10_fault cX10_fault 1 (some .int) d3 0 0 [.ref (o + 69)] n1 kd1 I1 J1 P1 (pQ (o + 69) n1 kd1 I1 J1 P1 (some (.int w)) 0 D)) ∧ Nq o C D := by
  obtain ⟨⟨t, T, fp, rr, H, M, un, cs, tx, e, im, wk, hok, ⟨b, s, f, l, hC⟩, hR⟩, hout, ho9⟩ := h
  obtain ⟨k, d, mc, ms, d3, v, w, C, D, ⟨b1, b2, b3, b4, b5, b6, b7⟩, hT, hc, hq, hn⟩ := pr_fault o b s f l  hC hok hR
  have hko := hC.1.1.1
  obtain rfl : k = 0 := by omega
  exact ⟨d, mc, ms, d3, v, w, C, D, ⟨b2, b3, b4, b5, b6 rfl⟩, hc, hq, hT, hn⟩

set_option maxHeartbeats 4000000 in
set_option maxRecDepth 100000 in
theorem ow_count (o : Nat) (a0 : Int32) {n : Nat} {kd : mK} {I : mI} {J : mJ} {P : mP} (h : stW o n kd I J P) (hn9 : n < 900000) : ∃ (k d2 mc ms d3 : Nat) (v w : Int32) (C : Nat → mK → mI → mJ → mP → Prop) (D : mK → mI → mP → Prop), (k ≤ 2 ∧ d2 ≤ 64 ∧ mc ≤ 1 ∧ ms ≤ 10240 ∧ d3 ≤ 63 ∧ (k = 0 → v = w)) ∧ CtW [(0, 9, 12, 18)] yL_count cL_count 4 (some .int) d2 mc ms [.ref o, .int a0, .ref (o + 125)] n kd I J P (pWv o n kd I J P k v.toInt64 C) ∧ (∀ n1 kd1 I1 J1 P1, sameM (o + 69) kd kd1 I I1 P P1 → Ct yX10_count cX10_count 2 (some .int) d3 0 0 [.ref (o + 69), .int a0] n1 kd1 I1 J1 P1 (pQ (o + 69) n1 kd1 I1 J1 P1 (some (.int w)) k D)) ∧ Nq o C D := by
  obtain ⟨⟨t, T, fp, rr, H, M, un, cs, tx, e, im, wk, hok, ⟨b, s, f, l, hC⟩, hR⟩, hout, ho9⟩ := h
  obtain ⟨k, d, mc, ms, d3, v, w, C, D, ⟨b1, b2, b3, b4, b5, b6, b7⟩, hT, hc, hq, hn⟩ := pr_count o b s f l a0 hC hok hR
  have hko := hC.1.1.1
  rcases (show k = 0 ∨ k = 1 by omega) with rfl | rfl
  · exact ⟨0, d + 1, mc, ms, d3, v, w, C, D, ⟨by omega, by omega, b3, b4, b5, b6⟩, v_count_0 o a0 v hT hc hko hout, hq, hT, hn⟩
  · exact ⟨1, d + 1, mc, ms, d3, v, w, C, D, ⟨by omega, by omega, b3, b4, b5, b6⟩, v_count_1 o a0 _ hT hc hko hout, hq, hT, hn⟩

set_option maxHeartbeats 4000000 in
set_option maxRecDepth 100000 in
theorem ow_house (o : Nat) (a0 : Int32) (a1 : Int32) {n : Nat} {kd : mK} {I : mI} {J : mJ} {P : mP} (h : stW o n kd I J P) (hn9 : n < 900000) : ∃ (k d2 mc ms d3 : Nat) (v w : Int32) (C : Nat → mK → mI → mJ → mP → Prop) (D : mK → mI → mP → Prop), (k ≤ 2 ∧ d2 ≤ 64 ∧ mc ≤ 1 ∧ ms ≤ 10240 ∧ d3 ≤ 63 ∧ (k = 0 → v = w)) ∧ CtW [(0, 10, 13, 18)] yL_house cL_house 5 (some .int) d2 mc ms [.ref o, .int a0, .int a1, .ref (o + 125)] n kd I J P (pWv o n kd I J P k v.toInt64 C) ∧ (∀ n1 kd1 I1 J1 P1, sameM (o + 69) kd kd1 I I1 P P1 → Ct yX10_house cX10_house 3 (some .int) d3 0 0 [.ref (o + 69), .int a0, .int a1] n1 kd1 I1 J1 P1 (pQ (o + 69) n1 kd1 I1 J1 P1 (some (.int w)) k D)) ∧ Nq o C D := by
  obtain ⟨⟨t, T, fp, rr, H, M, un, cs, tx, e, im, wk, hok, ⟨b, s, f, l, hC⟩, hR⟩, hout, ho9⟩ := h
  obtain ⟨k, d, mc, ms, d3, v, w, C, D, ⟨b1, b2, b3, b4, b5, b6, b7⟩, hT, hc, hq, hn⟩ := pr_house o b s f l a0 a1 hC hok hR
  have hko := hC.1.1.1
  rcases (show k = 0 ∨ k = 1 by omega) with rfl | rfl
  · exact ⟨0, d + 1, mc, ms, d3, v, w, C, D, ⟨by omega, by omega, b3, b4, b5, b6⟩, v_house_0 o a0 a1 v hT hc hko hout, hq, hT, hn⟩
  · exact ⟨1, d + 1, mc, ms, d3, v, w, C, D, ⟨by omega, by omega, b3, b4, b5, b6⟩, v_house_1 o a0 a1 _ hT hc hko hout, hq, hT, hn⟩

set_option maxHeartbeats 4000000 in
set_option maxRecDepth 100000 in
theorem ow_become (o : Nat) (a0 : Int32) (a1 : Int32) (a2 : Int32) {n : Nat} {kd : mK} {I : mI} {J : mJ} {P : mP} (h : stW o n kd I J P) (hn9 : n < 900000) : ∃ (k d2 mc ms d3 : Nat) (v w : Int32) (C : Nat → mK → mI → mJ → mP → Prop) (D : mK → mI → mP → Prop), (k ≤ 2 ∧ d2 ≤ 64 ∧ mc ≤ 1 ∧ ms ≤ 10240 ∧ d3 ≤ 63 ∧ (k = 0 → v = w)) ∧ CtW [(0, 12, 15, 18)] yL_become cL_become 6 (some .int) d2 mc ms [.ref o, .int a0, .int a1, .int a2, .ref (o + 125)] n kd I J P (pWv o n kd I J P k v.toInt64 C) ∧ (∀ n1 kd1 I1 J1 P1, sameM (o + 69) kd kd1 I I1 P P1 → Ct yX10_become cX10_become 5 (some .int) d3 0 0 [.ref (o + 69), .int a0, .int a1, .int a2] n1 kd1 I1 J1 P1 (pQ (o + 69) n1 kd1 I1 J1 P1 (some (.int w)) k D)) ∧ Nq o C D := by
  obtain ⟨⟨t, T, fp, rr, H, M, un, cs, tx, e, im, wk, hok, ⟨b, s, f, l, hC⟩, hR⟩, hout, ho9⟩ := h
  obtain ⟨k, d, mc, ms, d3, v, w, C, D, ⟨b1, b2, b3, b4, b5, b6, b7⟩, hT, hc, hq, hn⟩ := pr_become o b s f l a0 a1 a2 hC hok hR
  have hko := hC.1.1.1
  rcases (show k = 0 ∨ k = 1 by omega) with rfl | rfl
  · exact ⟨0, d + 1, mc, ms, d3, v, w, C, D, ⟨by omega, by omega, b3, b4, b5, b6⟩, v_become_0 o a0 a1 a2 v hT hc hko hout, hq, hT, hn⟩
  · exact ⟨1, d + 1, mc, ms, d3, v, w, C, D, ⟨by omega, by omega, b3, b4, b5, b6⟩, v_become_1 o a0 a1 a2 _ hT hc hko hout, hq, hT, hn⟩

set_option maxHeartbeats 4000000 in
set_option maxRecDepth 100000 in
theorem ow_mute (o : Nat) (a0 : Int32) (a1 : Bool) {n : Nat} {kd : mK} {I : mI} {J : mJ} {P : mP} (h : stW o n kd I J P) (hn9 : n < 900000) : ∃ (k d2 mc ms d3 : Nat) (v w : Int32) (C : Nat → mK → mI → mJ → mP → Prop) (D : mK → mI → mP → Prop), (k ≤ 2 ∧ d2 ≤ 64 ∧ mc ≤ 1 ∧ ms ≤ 10240 ∧ d3 ≤ 63 ∧ (k = 0 → v = w) ∧ (k = 0 → v = nI 0 ∨ v = nI 1)) ∧ CtW [(0, 17, 20, 18)] yL_mute cL_mute 5 (some .int) d2 mc ms [.ref o, .int a0, .int (bz a1), .ref (o + 125)] n kd I J P (pWv o n kd I J P k v.toInt64 C) ∧ (∀ n1 kd1 I1 J1 P1, sameM (o + 69) kd kd1 I I1 P P1 → Ct yX10_mute cX10_mute 3 (some .boolean) d3 0 0 [.ref (o + 69), .int a0, .int (bz a1)] n1 kd1 I1 J1 P1 (pQ (o + 69) n1 kd1 I1 J1 P1 (some (.int w)) k D)) ∧ Nq o C D := by
  obtain ⟨⟨t, T, fp, rr, H, M, un, cs, tx, e, im, wk, hok, ⟨b, s, f, l, hC⟩, hR⟩, hout, ho9⟩ := h
  obtain ⟨k, d, mc, ms, d3, v, w, C, D, ⟨b1, b2, b3, b4, b5, b6, b7⟩, hT, hc, hq, hn⟩ := pr_mute o b s f l a0 a1 hC hok hR
  have hko := hC.1.1.1
  rcases (show k = 0 ∨ k = 1 by omega) with rfl | rfl
  · have hv : CtW [(0, 17, 20, 18)] yL_mute cL_mute 5 (some .int) (d + 1) mc ms [.ref o, .int a0, .int (bz a1), .ref (o + 125)] n kd I J P (pWv o n kd I J P 0 v.toInt64 C) := by
      rcases b7 rfl with rfl | rfl
      · exact v_mute_00 o a0 (bz a1) hT hc hko hout
      · exact v_mute_01 o a0 (bz a1) hT hc hko hout
    exact ⟨0, d + 1, mc, ms, d3, v, w, C, D, ⟨by omega, by omega, b3, b4, b5, b6, b7⟩, hv, hq, hT, hn⟩
  · exact ⟨1, d + 1, mc, ms, d3, v, w, C, D, ⟨by omega, by omega, b3, b4, b5, b6, b7⟩, v_mute_1 o a0 (bz a1) _ hT hc hko hout, hq, hT, hn⟩

set_option maxHeartbeats 4000000 in
set_option maxRecDepth 100000 in
theorem ow_undo (o : Nat) {n : Nat} {kd : mK} {I : mI} {J : mJ} {P : mP} (h : stW o n kd I J P) (hn9 : n < 900000) : ∃ (d2 mc ms d3 : Nat) (v w : Int32) (C : Nat → mK → mI → mJ → mP → Prop) (D : mK → mI → mP → Prop), (d2 ≤ 63 ∧ mc ≤ 1 ∧ ms ≤ 10240 ∧ d3 ≤ 63 ∧ v = w) ∧ Ct yX9_undo cX9_undo 1 (some .int) d2 mc ms [.ref o] n kd I J P (pK o n kd I J P (.inl (some (.int v))) C) ∧ (∀ n1 kd1 I1 J1 P1, sameM (o + 69) kd kd1 I I1 P P1 → Ct yX10_undo cX10_undo 1 (some .int) d3 0 0 [.ref (o + 69)] n1 kd1 I1 J1 P1 (pQ (o + 69) n1 kd1 I1 J1 P1 (some (.int w)) 0 D)) ∧ Nq o C D := by
  obtain ⟨⟨t, T, fp, rr, H, M, un, cs, tx, e, im, wk, hok, ⟨b, s, f, l, hC⟩, hR⟩, hout, ho9⟩ := h
  obtain ⟨k, d, mc, ms, d3, v, w, C, D, ⟨b1, b2, b3, b4, b5, b6, b7⟩, hT, hc, hq, hn⟩ := pr_undo o b s f l  hC hok hR
  have hko := hC.1.1.1
  obtain rfl : k = 0 := by omega
  exact ⟨d, mc, ms, d3, v, w, C, D, ⟨b2, b3, b4, b5, b6 rfl⟩, hc, hq, hT, hn⟩

set_option maxHeartbeats 4000000 in
set_option maxRecDepth 100000 in
theorem ow_letter (o : Nat) (a0 : Int32) (a1 : Int32) {n : Nat} {kd : mK} {I : mI} {J : mJ} {P : mP} (h : stW o n kd I J P) (hn9 : n < 900000) : ∃ (k d2 mc ms d3 : Nat) (v w : Int32) (C : Nat → mK → mI → mJ → mP → Prop) (D : mK → mI → mP → Prop), (k ≤ 2 ∧ d2 ≤ 64 ∧ mc ≤ 1 ∧ ms ≤ 10240 ∧ d3 ≤ 63 ∧ (k = 0 → v = w)) ∧ CtW [(0, 10, 13, 18)] yL_letter cL_letter 5 (some .int) d2 mc ms [.ref o, .int a0, .int a1, .ref (o + 125)] n kd I J P (pWv o n kd I J P k v.toInt64 C) ∧ (∀ n1 kd1 I1 J1 P1, sameM (o + 69) kd kd1 I I1 P P1 → Ct yX10_letter cX10_letter 3 (some .int) d3 0 0 [.ref (o + 69), .int a0, .int a1] n1 kd1 I1 J1 P1 (pQ (o + 69) n1 kd1 I1 J1 P1 (some (.int w)) k D)) ∧ Nq o C D := by
  obtain ⟨⟨t, T, fp, rr, H, M, un, cs, tx, e, im, wk, hok, ⟨b, s, f, l, hC⟩, hR⟩, hout, ho9⟩ := h
  obtain ⟨k, d, mc, ms, d3, v, w, C, D, ⟨b1, b2, b3, b4, b5, b6, b7⟩, hT, hc, hq, hn⟩ := pr_letter o b s f l a0 a1 hC hok hR
  have hko := hC.1.1.1
  rcases (show k = 0 ∨ k = 1 by omega) with rfl | rfl
  · exact ⟨0, d + 1, mc, ms, d3, v, w, C, D, ⟨by omega, by omega, b3, b4, b5, b6⟩, v_letter_0 o a0 a1 v hT hc hko hout, hq, hT, hn⟩
  · exact ⟨1, d + 1, mc, ms, d3, v, w, C, D, ⟨by omega, by omega, b3, b4, b5, b6⟩, v_letter_1 o a0 a1 _ hT hc hko hout, hq, hT, hn⟩

set_option maxHeartbeats 4000000 in
set_option maxRecDepth 100000 in
theorem ow_unletter (o : Nat) {n : Nat} {kd : mK} {I : mI} {J : mJ} {P : mP} (h : stW o n kd I J P) (hn9 : n < 900000) : ∃ (d2 mc ms d3 : Nat) (v w : Int32) (C : Nat → mK → mI → mJ → mP → Prop) (D : mK → mI → mP → Prop), (d2 ≤ 63 ∧ mc ≤ 1 ∧ ms ≤ 10240 ∧ d3 ≤ 63 ∧ v = w) ∧ Ct yX9_unletter cX9_unletter 1 (some .int) d2 mc ms [.ref o] n kd I J P (pK o n kd I J P (.inl (some (.int v))) C) ∧ (∀ n1 kd1 I1 J1 P1, sameM (o + 69) kd kd1 I I1 P P1 → Ct yX10_unletter cX10_unletter 1 (some .int) d3 0 0 [.ref (o + 69)] n1 kd1 I1 J1 P1 (pQ (o + 69) n1 kd1 I1 J1 P1 (some (.int w)) 0 D)) ∧ Nq o C D := by
  obtain ⟨⟨t, T, fp, rr, H, M, un, cs, tx, e, im, wk, hok, ⟨b, s, f, l, hC⟩, hR⟩, hout, ho9⟩ := h
  obtain ⟨k, d, mc, ms, d3, v, w, C, D, ⟨b1, b2, b3, b4, b5, b6, b7⟩, hT, hc, hq, hn⟩ := pr_unletter o b s f l  hC hok hR
  have hko := hC.1.1.1
  obtain rfl : k = 0 := by omega
  exact ⟨d, mc, ms, d3, v, w, C, D, ⟨b2, b3, b4, b5, b6 rfl⟩, hc, hq, hT, hn⟩

set_option maxHeartbeats 4000000 in
set_option maxRecDepth 100000 in
theorem ow_numberings (o : Nat) {n : Nat} {kd : mK} {I : mI} {J : mJ} {P : mP} (h : stW o n kd I J P) (hn9 : n < 900000) : ∃ (d2 mc ms d3 : Nat) (v w : Int32) (C : Nat → mK → mI → mJ → mP → Prop) (D : mK → mI → mP → Prop), (d2 ≤ 63 ∧ mc ≤ 1 ∧ ms ≤ 10240 ∧ d3 ≤ 63 ∧ v = w) ∧ Ct yX9_numberings cX9_numberings 1 (some .int) d2 mc ms [.ref o] n kd I J P (pK o n kd I J P (.inl (some (.int v))) C) ∧ (∀ n1 kd1 I1 J1 P1, sameM (o + 69) kd kd1 I I1 P P1 → Ct yX10_numberings cX10_numberings 1 (some .int) d3 0 0 [.ref (o + 69)] n1 kd1 I1 J1 P1 (pQ (o + 69) n1 kd1 I1 J1 P1 (some (.int w)) 0 D)) ∧ Nq o C D := by
  obtain ⟨⟨t, T, fp, rr, H, M, un, cs, tx, e, im, wk, hok, ⟨b, s, f, l, hC⟩, hR⟩, hout, ho9⟩ := h
  obtain ⟨k, d, mc, ms, d3, v, w, C, D, ⟨b1, b2, b3, b4, b5, b6, b7⟩, hT, hc, hq, hn⟩ := pr_numberings o b s f l  hC hok hR
  have hko := hC.1.1.1
  obtain rfl : k = 0 := by omega
  exact ⟨d, mc, ms, d3, v, w, C, D, ⟨b2, b3, b4, b5, b6 rfl⟩, hc, hq, hT, hn⟩

set_option maxHeartbeats 4000000 in
set_option maxRecDepth 100000 in
theorem ow_tries (o : Nat) {n : Nat} {kd : mK} {I : mI} {J : mJ} {P : mP} (h : stW o n kd I J P) (hn9 : n < 900000) : ∃ (d2 mc ms d3 : Nat) (v w : Int32) (C : Nat → mK → mI → mJ → mP → Prop) (D : mK → mI → mP → Prop), (d2 ≤ 63 ∧ mc ≤ 1 ∧ ms ≤ 10240 ∧ d3 ≤ 63 ∧ v = w) ∧ Ct yX9_tries cX9_tries 1 (some .int) d2 mc ms [.ref o] n kd I J P (pK o n kd I J P (.inl (some (.int v))) C) ∧ (∀ n1 kd1 I1 J1 P1, sameM (o + 69) kd kd1 I I1 P P1 → Ct yX10_tries cX10_tries 1 (some .int) d3 0 0 [.ref (o + 69)] n1 kd1 I1 J1 P1 (pQ (o + 69) n1 kd1 I1 J1 P1 (some (.int w)) 0 D)) ∧ Nq o C D := by
  obtain ⟨⟨t, T, fp, rr, H, M, un, cs, tx, e, im, wk, hok, ⟨b, s, f, l, hC⟩, hR⟩, hout, ho9⟩ := h
  obtain ⟨k, d, mc, ms, d3, v, w, C, D, ⟨b1, b2, b3, b4, b5, b6, b7⟩, hT, hc, hq, hn⟩ := pr_tries o b s f l  hC hok hR
  have hko := hC.1.1.1
  obtain rfl : k = 0 := by omega
  exact ⟨d, mc, ms, d3, v, w, C, D, ⟨b2, b3, b4, b5, b6 rfl⟩, hc, hq, hT, hn⟩

set_option maxHeartbeats 4000000 in
set_option maxRecDepth 100000 in
theorem ow_number (o : Nat) (a0 : Int32) (a1 : Int32) {n : Nat} {kd : mK} {I : mI} {J : mJ} {P : mP} (h : stW o n kd I J P) (hn9 : n < 900000) : ∃ (k d2 mc ms d3 : Nat) (v w : Int32) (C : Nat → mK → mI → mJ → mP → Prop) (D : mK → mI → mP → Prop), (k ≤ 2 ∧ d2 ≤ 64 ∧ mc ≤ 1 ∧ ms ≤ 10240 ∧ d3 ≤ 63 ∧ (k = 0 → v = w)) ∧ CtW [(0, 10, 13, 18)] yL_number cL_number 5 (some .int) d2 mc ms [.ref o, .int a0, .int a1, .ref (o + 125)] n kd I J P (pWv o n kd I J P k v.toInt64 C) ∧ (∀ n1 kd1 I1 J1 P1, sameM (o + 69) kd kd1 I I1 P P1 → Ct yX10_number cX10_number 4 (some .int) d3 0 0 [.ref (o + 69), .int a0, .int a1] n1 kd1 I1 J1 P1 (pQ (o + 69) n1 kd1 I1 J1 P1 (some (.int w)) k D)) ∧ Nq o C D := by
  obtain ⟨⟨t, T, fp, rr, H, M, un, cs, tx, e, im, wk, hok, ⟨b, s, f, l, hC⟩, hR⟩, hout, ho9⟩ := h
  obtain ⟨k, d, mc, ms, d3, v, w, C, D, ⟨b1, b2, b3, b4, b5, b6, b7⟩, hT, hc, hq, hn⟩ := pr_number o b s f l a0 a1 hC hok hR
  have hko := hC.1.1.1
  rcases (show k = 0 ∨ k = 1 by omega) with rfl | rfl
  · exact ⟨0, d + 1, mc, ms, d3, v, w, C, D, ⟨by omega, by omega, b3, b4, b5, b6⟩, v_number_0 o a0 a1 v hT hc hko hout, hq, hT, hn⟩
  · exact ⟨1, d + 1, mc, ms, d3, v, w, C, D, ⟨by omega, by omega, b3, b4, b5, b6⟩, v_number_1 o a0 a1 _ hT hc hko hout, hq, hT, hn⟩

set_option maxHeartbeats 4000000 in
set_option maxRecDepth 100000 in
theorem ow_may (o : Nat) (a0 : Int32) {n : Nat} {kd : mK} {I : mI} {J : mJ} {P : mP} (h : stW o n kd I J P) (hn9 : n < 900000) : ∃ (k d2 mc ms d3 : Nat) (v w : Int32) (C : Nat → mK → mI → mJ → mP → Prop) (D : mK → mI → mP → Prop), (k ≤ 2 ∧ d2 ≤ 64 ∧ mc ≤ 1 ∧ ms ≤ 10240 ∧ d3 ≤ 63 ∧ (k = 0 → v = w)) ∧ CtW [(0, 9, 12, 18)] yL_may cL_may 4 (some .int) d2 mc ms [.ref o, .int a0, .ref (o + 125)] n kd I J P (pWv o n kd I J P k v.toInt64 C) ∧ (∀ n1 kd1 I1 J1 P1, sameM (o + 69) kd kd1 I I1 P P1 → Ct yX10_may cX10_may 2 (some .int) d3 0 0 [.ref (o + 69), .int a0] n1 kd1 I1 J1 P1 (pQ (o + 69) n1 kd1 I1 J1 P1 (some (.int w)) k D)) ∧ Nq o C D := by
  obtain ⟨⟨t, T, fp, rr, H, M, un, cs, tx, e, im, wk, hok, ⟨b, s, f, l, hC⟩, hR⟩, hout, ho9⟩ := h
  obtain ⟨k, d, mc, ms, d3, v, w, C, D, ⟨b1, b2, b3, b4, b5, b6, b7⟩, hT, hc, hq, hn⟩ := pr_may o b s f l a0 hC hok hR
  have hko := hC.1.1.1
  rcases (show k = 0 ∨ k = 1 by omega) with rfl | rfl
  · exact ⟨0, d + 1, mc, ms, d3, v, w, C, D, ⟨by omega, by omega, b3, b4, b5, b6⟩, v_may_0 o a0 v hT hc hko hout, hq, hT, hn⟩
  · exact ⟨1, d + 1, mc, ms, d3, v, w, C, D, ⟨by omega, by omega, b3, b4, b5, b6⟩, v_may_1 o a0 _ hT hc hko hout, hq, hT, hn⟩

set_option maxHeartbeats 4000000 in
set_option maxRecDepth 100000 in
theorem ow_holds (o : Nat) (a0 : Int32) (a1 : Int64) {n : Nat} {kd : mK} {I : mI} {J : mJ} {P : mP} (h : stW o n kd I J P) (hn9 : n < 900000) : ∃ (k d2 mc ms d3 : Nat) (v w : Int32) (C : Nat → mK → mI → mJ → mP → Prop) (D : mK → mI → mP → Prop), (k ≤ 2 ∧ d2 ≤ 64 ∧ mc ≤ 1 ∧ ms ≤ 10240 ∧ d3 ≤ 63 ∧ (k = 0 → v = w)) ∧ CtW [(0, 11, 14, 18), (0, 11, 18, 13)] yL_holds cL_holds 6 (some .int) d2 mc ms [.ref o, .int a0, .long a1, .ref (o + 125)] n kd I J P (pWv o n kd I J P k v.toInt64 C) ∧ (∀ n1 kd1 I1 J1 P1, sameM (o + 69) kd kd1 I I1 P P1 → Ct yX10_holds cX10_holds 5 (some .int) d3 0 0 [.ref (o + 69), .int a0, .long a1] n1 kd1 I1 J1 P1 (pQ (o + 69) n1 kd1 I1 J1 P1 (some (.int w)) k D)) ∧ Nq o C D := by
  obtain ⟨⟨t, T, fp, rr, H, M, un, cs, tx, e, im, wk, hok, ⟨b, s, f, l, hC⟩, hR⟩, hout, ho9⟩ := h
  obtain ⟨k, d, mc, ms, d3, v, w, C, D, ⟨b1, b2, b3, b4, b5, b6, b7⟩, hT, hc, hq, hn⟩ := pr_holds o b s f l a0 a1 hC hok hR
  have hko := hC.1.1.1
  rcases (show k = 0 ∨ k = 1 ∨ k = 2 by omega) with rfl | rfl | rfl
  · exact ⟨0, d + 1, mc, ms, d3, v, w, C, D, ⟨by omega, by omega, b3, b4, b5, b6⟩, v_holds_0 o a0 a1 v hT hc hko hout, hq, hT, hn⟩
  · exact ⟨1, d + 1, mc, ms, d3, v, w, C, D, ⟨by omega, by omega, b3, b4, b5, b6⟩, v_holds_1 o a0 a1 _ hT hc hko hout, hq, hT, hn⟩
  · exact ⟨2, d + 1, mc, ms, d3, v, w, C, D, ⟨by omega, by omega, b3, b4, b5, b6⟩, v_holds_2 o a0 a1 _ hT hc hko hout, hq, hT, hn⟩

set_option maxHeartbeats 4000000 in
set_option maxRecDepth 100000 in
theorem ow_knot (o : Nat) {n : Nat} {kd : mK} {I : mI} {J : mJ} {P : mP} (h : stW o n kd I J P) (hn9 : n < 900000) : ∃ (d2 mc ms d3 : Nat) (v w : Int32) (C : Nat → mK → mI → mJ → mP → Prop) (D : mK → mI → mP → Prop), (d2 ≤ 63 ∧ mc ≤ 1 ∧ ms ≤ 10240 ∧ d3 ≤ 63 ∧ v = w) ∧ Ct yX9_knot cX9_knot 1 (some .int) d2 mc ms [.ref o] n kd I J P (pK o n kd I J P (.inl (some (.int v))) C) ∧ (∀ n1 kd1 I1 J1 P1, sameM (o + 69) kd kd1 I I1 P P1 → Ct yX10_knot cX10_knot 1 (some .int) d3 0 0 [.ref (o + 69)] n1 kd1 I1 J1 P1 (pQ (o + 69) n1 kd1 I1 J1 P1 (some (.int w)) 0 D)) ∧ Nq o C D := by
  obtain ⟨⟨t, T, fp, rr, H, M, un, cs, tx, e, im, wk, hok, ⟨b, s, f, l, hC⟩, hR⟩, hout, ho9⟩ := h
  obtain ⟨k, d, mc, ms, d3, v, w, C, D, ⟨b1, b2, b3, b4, b5, b6, b7⟩, hT, hc, hq, hn⟩ := pr_knot o b s f l  hC hok hR
  have hko := hC.1.1.1
  obtain rfl : k = 0 := by omega
  exact ⟨d, mc, ms, d3, v, w, C, D, ⟨b2, b3, b4, b5, b6 rfl⟩, hc, hq, hT, hn⟩

set_option maxHeartbeats 4000000 in
set_option maxRecDepth 100000 in
theorem ow_liars (o : Nat) {n : Nat} {kd : mK} {I : mI} {J : mJ} {P : mP} (h : stW o n kd I J P) (hn9 : n < 900000) : ∃ (d2 mc ms d3 : Nat) (v w : Int32) (C : Nat → mK → mI → mJ → mP → Prop) (D : mK → mI → mP → Prop), (d2 ≤ 63 ∧ mc ≤ 1 ∧ ms ≤ 10240 ∧ d3 ≤ 63 ∧ v = w) ∧ Ct yX9_liars cX9_liars 1 (some .int) d2 mc ms [.ref o] n kd I J P (pK o n kd I J P (.inl (some (.int v))) C) ∧ (∀ n1 kd1 I1 J1 P1, sameM (o + 69) kd kd1 I I1 P P1 → Ct yX10_liars cX10_liars 4 (some .int) d3 0 0 [.ref (o + 69)] n1 kd1 I1 J1 P1 (pQ (o + 69) n1 kd1 I1 J1 P1 (some (.int w)) 0 D)) ∧ Nq o C D := by
  obtain ⟨⟨t, T, fp, rr, H, M, un, cs, tx, e, im, wk, hok, ⟨b, s, f, l, hC⟩, hR⟩, hout, ho9⟩ := h
  obtain ⟨k, d, mc, ms, d3, v, w, C, D, ⟨b1, b2, b3, b4, b5, b6, b7⟩, hT, hc, hq, hn⟩ := pr_liars o b s f l  hC hok hR
  have hko := hC.1.1.1
  obtain rfl : k = 0 := by omega
  exact ⟨d, mc, ms, d3, v, w, C, D, ⟨b2, b3, b4, b5, b6 rfl⟩, hc, hq, hT, hn⟩

set_option maxHeartbeats 4000000 in
set_option maxRecDepth 100000 in
theorem ow_looks (o : Nat) (a0 : Int32) {n : Nat} {kd : mK} {I : mI} {J : mJ} {P : mP} (h : stW o n kd I J P) (hn9 : n < 900000) : ∃ (k d2 mc ms d3 : Nat) (v w : Int32) (C : Nat → mK → mI → mJ → mP → Prop) (D : mK → mI → mP → Prop), (k ≤ 2 ∧ d2 ≤ 64 ∧ mc ≤ 1 ∧ ms ≤ 10240 ∧ d3 ≤ 63 ∧ (k = 0 → v = w)) ∧ CtW [(0, 9, 12, 18)] yL_looks cL_looks 4 (some .int) d2 mc ms [.ref o, .int a0, .ref (o + 125)] n kd I J P (pWv o n kd I J P k v.toInt64 C) ∧ (∀ n1 kd1 I1 J1 P1, sameM (o + 69) kd kd1 I I1 P P1 → Ct yX10_looks cX10_looks 6 (some .int) d3 0 0 [.ref (o + 69), .int a0] n1 kd1 I1 J1 P1 (pQ (o + 69) n1 kd1 I1 J1 P1 (some (.int w)) k D)) ∧ Nq o C D := by
  obtain ⟨⟨t, T, fp, rr, H, M, un, cs, tx, e, im, wk, hok, ⟨b, s, f, l, hC⟩, hR⟩, hout, ho9⟩ := h
  obtain ⟨k, d, mc, ms, d3, v, w, C, D, ⟨b1, b2, b3, b4, b5, b6, b7⟩, hT, hc, hq, hn⟩ := pr_looks o b s f l a0 hC hok hR ho9 (by omega)
  have hko := hC.1.1.1
  rcases (show k = 0 ∨ k = 1 by omega) with rfl | rfl
  · exact ⟨0, d + 1, mc, ms, d3, v, w, C, D, ⟨by omega, by omega, b3, b4, b5, b6⟩, v_looks_0 o a0 v hT hc hko hout, hq, hT, hn⟩
  · exact ⟨1, d + 1, mc, ms, d3, v, w, C, D, ⟨by omega, by omega, b3, b4, b5, b6⟩, v_looks_1 o a0 _ hT hc hko hout, hq, hT, hn⟩

set_option maxHeartbeats 4000000 in
set_option maxRecDepth 100000 in
theorem ow_doors (o : Nat) {n : Nat} {kd : mK} {I : mI} {J : mJ} {P : mP} (h : stW o n kd I J P) (hn9 : n < 900000) : ∃ (d2 mc ms d3 : Nat) (v w : Int32) (C : Nat → mK → mI → mJ → mP → Prop) (D : mK → mI → mP → Prop), (d2 ≤ 63 ∧ mc ≤ 1 ∧ ms ≤ 10240 ∧ d3 ≤ 63 ∧ v = w) ∧ Ct yX9_doors cX9_doors 1 (some .int) d2 mc ms [.ref o] n kd I J P (pK o n kd I J P (.inl (some (.int v))) C) ∧ (∀ n1 kd1 I1 J1 P1, sameM (o + 69) kd kd1 I I1 P P1 → Ct yX10_doors cX10_doors 1 (some .int) d3 0 0 [.ref (o + 69)] n1 kd1 I1 J1 P1 (pQ (o + 69) n1 kd1 I1 J1 P1 (some (.int w)) 0 D)) ∧ Nq o C D := by
  obtain ⟨⟨t, T, fp, rr, H, M, un, cs, tx, e, im, wk, hok, ⟨b, s, f, l, hC⟩, hR⟩, hout, ho9⟩ := h
  obtain ⟨k, d, mc, ms, d3, v, w, C, D, ⟨b1, b2, b3, b4, b5, b6, b7⟩, hT, hc, hq, hn⟩ := pr_doors o b s f l  hC hok hR
  have hko := hC.1.1.1
  obtain rfl : k = 0 := by omega
  exact ⟨d, mc, ms, d3, v, w, C, D, ⟨b2, b3, b4, b5, b6 rfl⟩, hc, hq, hT, hn⟩

set_option maxHeartbeats 4000000 in
set_option maxRecDepth 100000 in
theorem ow_hints (o : Nat) (a0 : Int32) {n : Nat} {kd : mK} {I : mI} {J : mJ} {P : mP} (h : stW o n kd I J P) (hn9 : n < 900000) : ∃ (k d2 mc ms d3 : Nat) (v w : Int32) (C : Nat → mK → mI → mJ → mP → Prop) (D : mK → mI → mP → Prop), (k ≤ 2 ∧ d2 ≤ 64 ∧ mc ≤ 1 ∧ ms ≤ 10240 ∧ d3 ≤ 63 ∧ (k = 0 → v = w)) ∧ CtW [(0, 9, 12, 18)] yL_hints cL_hints 4 (some .int) d2 mc ms [.ref o, .int a0, .ref (o + 125)] n kd I J P (pWv o n kd I J P k v.toInt64 C) ∧ (∀ n1 kd1 I1 J1 P1, sameM (o + 69) kd kd1 I I1 P P1 → Ct yX10_hints cX10_hints 2 (some .int) d3 0 0 [.ref (o + 69), .int a0] n1 kd1 I1 J1 P1 (pQ (o + 69) n1 kd1 I1 J1 P1 (some (.int w)) k D)) ∧ Nq o C D := by
  obtain ⟨⟨t, T, fp, rr, H, M, un, cs, tx, e, im, wk, hok, ⟨b, s, f, l, hC⟩, hR⟩, hout, ho9⟩ := h
  obtain ⟨k, d, mc, ms, d3, v, w, C, D, ⟨b1, b2, b3, b4, b5, b6, b7⟩, hT, hc, hq, hn⟩ := pr_hints o b s f l a0 hC hok hR
  have hko := hC.1.1.1
  rcases (show k = 0 ∨ k = 1 by omega) with rfl | rfl
  · exact ⟨0, d + 1, mc, ms, d3, v, w, C, D, ⟨by omega, by omega, b3, b4, b5, b6⟩, v_hints_0 o a0 v hT hc hko hout, hq, hT, hn⟩
  · exact ⟨1, d + 1, mc, ms, d3, v, w, C, D, ⟨by omega, by omega, b3, b4, b5, b6⟩, v_hints_1 o a0 _ hT hc hko hout, hq, hT, hn⟩

set_option maxHeartbeats 4000000 in
set_option maxRecDepth 100000 in
theorem ow_post (o : Nat) (a0 : Int32) (a1 : Int32) {n : Nat} {kd : mK} {I : mI} {J : mJ} {P : mP} (h : stW o n kd I J P) (hn9 : n < 900000) : ∃ (k d2 mc ms d3 : Nat) (v w : Int32) (C : Nat → mK → mI → mJ → mP → Prop) (D : mK → mI → mP → Prop), (k ≤ 2 ∧ d2 ≤ 64 ∧ mc ≤ 1 ∧ ms ≤ 10240 ∧ d3 ≤ 63 ∧ (k = 0 → v = w)) ∧ CtW [(0, 10, 13, 18), (0, 10, 17, 13)] yL_post cL_post 5 (some .int) d2 mc ms [.ref o, .int a0, .int a1, .ref (o + 125)] n kd I J P (pWv o n kd I J P k v.toInt64 C) ∧ (∀ n1 kd1 I1 J1 P1, sameM (o + 69) kd kd1 I I1 P P1 → Ct yX10_post cX10_post 8 (some .int) d3 0 0 [.ref (o + 69), .int a0, .int a1] n1 kd1 I1 J1 P1 (pQ (o + 69) n1 kd1 I1 J1 P1 (some (.int w)) k D)) ∧ Nq o C D := by
  obtain ⟨⟨t, T, fp, rr, H, M, un, cs, tx, e, im, wk, hok, ⟨b, s, f, l, hC⟩, hR⟩, hout, ho9⟩ := h
  obtain ⟨k, d, mc, ms, d3, v, w, C, D, ⟨b1, b2, b3, b4, b5, b6, b7⟩, hT, hc, hq, hn⟩ := pr_post o b s f l a0 a1 hC hok hR
  have hko := hC.1.1.1
  rcases (show k = 0 ∨ k = 1 ∨ k = 2 by omega) with rfl | rfl | rfl
  · exact ⟨0, d + 1, mc, ms, d3, v, w, C, D, ⟨by omega, by omega, b3, b4, b5, b6⟩, v_post_0 o a0 a1 v hT hc hko hout, hq, hT, hn⟩
  · exact ⟨1, d + 1, mc, ms, d3, v, w, C, D, ⟨by omega, by omega, b3, b4, b5, b6⟩, v_post_1 o a0 a1 _ hT hc hko hout, hq, hT, hn⟩
  · exact ⟨2, d + 1, mc, ms, d3, v, w, C, D, ⟨by omega, by omega, b3, b4, b5, b6⟩, v_post_2 o a0 a1 _ hT hc hko hout, hq, hT, hn⟩

set_option maxHeartbeats 4000000 in
set_option maxRecDepth 100000 in
theorem ow_feud (o : Nat) (a0 : Int32) (a1 : Int32) (a2 : Int32) {n : Nat} {kd : mK} {I : mI} {J : mJ} {P : mP} (h : stW o n kd I J P) (hn9 : n < 900000) : ∃ (k d2 mc ms d3 : Nat) (v w : Int32) (C : Nat → mK → mI → mJ → mP → Prop) (D : mK → mI → mP → Prop), (k ≤ 2 ∧ d2 ≤ 64 ∧ mc ≤ 1 ∧ ms ≤ 10240 ∧ d3 ≤ 63 ∧ (k = 0 → v = w)) ∧ CtW [(0, 12, 15, 18), (0, 12, 19, 13)] yL_feud cL_feud 6 (some .int) d2 mc ms [.ref o, .int a0, .int a1, .int a2, .ref (o + 125)] n kd I J P (pWv o n kd I J P k v.toInt64 C) ∧ (∀ n1 kd1 I1 J1 P1, sameM (o + 69) kd kd1 I I1 P P1 → Ct yX10_feud cX10_feud 7 (some .int) d3 0 0 [.ref (o + 69), .int a0, .int a1, .int a2] n1 kd1 I1 J1 P1 (pQ (o + 69) n1 kd1 I1 J1 P1 (some (.int w)) k D)) ∧ Nq o C D := by
  obtain ⟨⟨t, T, fp, rr, H, M, un, cs, tx, e, im, wk, hok, ⟨b, s, f, l, hC⟩, hR⟩, hout, ho9⟩ := h
  obtain ⟨k, d, mc, ms, d3, v, w, C, D, ⟨b1, b2, b3, b4, b5, b6, b7⟩, hT, hc, hq, hn⟩ := pr_feud o b s f l a0 a1 a2 hC hok hR
  have hko := hC.1.1.1
  rcases (show k = 0 ∨ k = 1 ∨ k = 2 by omega) with rfl | rfl | rfl
  · exact ⟨0, d + 1, mc, ms, d3, v, w, C, D, ⟨by omega, by omega, b3, b4, b5, b6⟩, v_feud_0 o a0 a1 a2 v hT hc hko hout, hq, hT, hn⟩
  · exact ⟨1, d + 1, mc, ms, d3, v, w, C, D, ⟨by omega, by omega, b3, b4, b5, b6⟩, v_feud_1 o a0 a1 a2 _ hT hc hko hout, hq, hT, hn⟩
  · exact ⟨2, d + 1, mc, ms, d3, v, w, C, D, ⟨by omega, by omega, b3, b4, b5, b6⟩, v_feud_2 o a0 a1 a2 _ hT hc hko hout, hq, hT, hn⟩

set_option maxHeartbeats 4000000 in
set_option maxRecDepth 100000 in
theorem ow_years (o : Nat) (a0 : Int32) (a1 : Int32) {n : Nat} {kd : mK} {I : mI} {J : mJ} {P : mP} (h : stW o n kd I J P) (hn9 : n < 900000) : ∃ (k d2 mc ms d3 : Nat) (v w : Int32) (C : Nat → mK → mI → mJ → mP → Prop) (D : mK → mI → mP → Prop), (k ≤ 2 ∧ d2 ≤ 64 ∧ mc ≤ 1 ∧ ms ≤ 10240 ∧ d3 ≤ 63 ∧ (k = 0 → v = w)) ∧ CtW [(0, 10, 13, 13)] yL_years cL_years 5 (some .int) d2 mc ms [.ref o, .int a0, .int a1, .ref (o + 125)] n kd I J P (pWv o n kd I J P k v.toInt64 C) ∧ (∀ n1 kd1 I1 J1 P1, sameM (o + 69) kd kd1 I I1 P P1 → Ct yX10_years cX10_years 8 (some .int) d3 0 0 [.ref (o + 69), .int a0, .int a1] n1 kd1 I1 J1 P1 (pQ (o + 69) n1 kd1 I1 J1 P1 (some (.int w)) k D)) ∧ Nq o C D := by
  obtain ⟨⟨t, T, fp, rr, H, M, un, cs, tx, e, im, wk, hok, ⟨b, s, f, l, hC⟩, hR⟩, hout, ho9⟩ := h
  obtain ⟨k, d, mc, ms, d3, v, w, C, D, ⟨b1, b2, b3, b4, b5, b6, b7⟩, hT, hc, hq, hn⟩ := pr_years o b s f l a0 a1 hC hok hR
  have hko := hC.1.1.1
  rcases (show k = 0 ∨ k = 1 by omega) with rfl | rfl
  · exact ⟨0, d + 1, mc, ms, d3, v, w, C, D, ⟨by omega, by omega, b3, b4, b5, b6⟩, v_years_0 o a0 a1 v hT hc hko hout, hq, hT, hn⟩
  · exact ⟨1, d + 1, mc, ms, d3, v, w, C, D, ⟨by omega, by omega, b3, b4, b5, b6⟩, v_years_1 o a0 a1 _ hT hc hko hout, hq, hT, hn⟩

set_option maxHeartbeats 4000000 in
set_option maxRecDepth 100000 in
theorem ow_proof (o : Nat) (a0 : Int32) {n : Nat} {kd : mK} {I : mI} {J : mJ} {P : mP} (h : stW o n kd I J P) (hn9 : n < 900000) : ∃ (k d2 mc ms d3 : Nat) (v w : Int32) (C : Nat → mK → mI → mJ → mP → Prop) (D : mK → mI → mP → Prop), (k ≤ 2 ∧ d2 ≤ 64 ∧ mc ≤ 1 ∧ ms ≤ 10240 ∧ d3 ≤ 63 ∧ (k = 0 → v = w)) ∧ CtW [(0, 9, 12, 18)] yL_proof cL_proof 4 (some .int) d2 mc ms [.ref o, .int a0, .ref (o + 125)] n kd I J P (pWv o n kd I J P k v.toInt64 C) ∧ (∀ n1 kd1 I1 J1 P1, sameM (o + 69) kd kd1 I I1 P P1 → Ct yX10_proof cX10_proof 6 (some .int) d3 0 0 [.ref (o + 69), .int a0] n1 kd1 I1 J1 P1 (pQ (o + 69) n1 kd1 I1 J1 P1 (some (.int w)) k D)) ∧ Nq o C D := by
  obtain ⟨⟨t, T, fp, rr, H, M, un, cs, tx, e, im, wk, hok, ⟨b, s, f, l, hC⟩, hR⟩, hout, ho9⟩ := h
  obtain ⟨k, d, mc, ms, d3, v, w, C, D, ⟨b1, b2, b3, b4, b5, b6, b7⟩, hT, hc, hq, hn⟩ := pr_proof o b s f l a0 hC hok hR
  have hko := hC.1.1.1
  rcases (show k = 0 ∨ k = 1 by omega) with rfl | rfl
  · exact ⟨0, d + 1, mc, ms, d3, v, w, C, D, ⟨by omega, by omega, b3, b4, b5, b6⟩, v_proof_0 o a0 v hT hc hko hout, hq, hT, hn⟩
  · exact ⟨1, d + 1, mc, ms, d3, v, w, C, D, ⟨by omega, by omega, b3, b4, b5, b6⟩, v_proof_1 o a0 _ hT hc hko hout, hq, hT, hn⟩

set_option maxHeartbeats 4000000 in
set_option maxRecDepth 100000 in
theorem ow_build (o : Nat) (a0 : Int32) {n : Nat} {kd : mK} {I : mI} {J : mJ} {P : mP} (h : stW o n kd I J P) (hn9 : n < 900000) : ∃ (k d2 mc ms d3 : Nat) (v w : Int32) (C : Nat → mK → mI → mJ → mP → Prop) (D : mK → mI → mP → Prop), (k ≤ 2 ∧ d2 ≤ 64 ∧ mc ≤ 1 ∧ ms ≤ 10240 ∧ d3 ≤ 63 ∧ (k = 0 → v = w)) ∧ CtW [(0, 9, 12, 18), (0, 9, 15, 13)] yL_build cL_build 4 (some .int) d2 mc ms [.ref o, .int a0, .ref (o + 125)] n kd I J P (pWv o n kd I J P k v.toInt64 C) ∧ (∀ n1 kd1 I1 J1 P1, sameM (o + 69) kd kd1 I I1 P P1 → Ct yX10_build cX10_build 3 (some .int) d3 0 0 [.ref (o + 69), .int a0] n1 kd1 I1 J1 P1 (pQ (o + 69) n1 kd1 I1 J1 P1 (some (.int w)) k D)) ∧ Nq o C D := by
  obtain ⟨⟨t, T, fp, rr, H, M, un, cs, tx, e, im, wk, hok, ⟨b, s, f, l, hC⟩, hR⟩, hout, ho9⟩ := h
  obtain ⟨k, d, mc, ms, d3, v, w, C, D, ⟨b1, b2, b3, b4, b5, b6, b7⟩, hT, hc, hq, hn⟩ := pr_build o b s f l a0 hC hok hR
  have hko := hC.1.1.1
  rcases (show k = 0 ∨ k = 1 ∨ k = 2 by omega) with rfl | rfl | rfl
  · exact ⟨0, d + 1, mc, ms, d3, v, w, C, D, ⟨by omega, by omega, b3, b4, b5, b6⟩, v_build_0 o a0 v hT hc hko hout, hq, hT, hn⟩
  · exact ⟨1, d + 1, mc, ms, d3, v, w, C, D, ⟨by omega, by omega, b3, b4, b5, b6⟩, v_build_1 o a0 _ hT hc hko hout, hq, hT, hn⟩
  · exact ⟨2, d + 1, mc, ms, d3, v, w, C, D, ⟨by omega, by omega, b3, b4, b5, b6⟩, v_build_2 o a0 _ hT hc hko hout, hq, hT, hn⟩

set_option maxHeartbeats 4000000 in
set_option maxRecDepth 100000 in
theorem ow_changed (o : Nat) (a0 : Int32) (a1 : Int32) (a2 : Int32) (a3 : Int32) {n : Nat} {kd : mK} {I : mI} {J : mJ} {P : mP} (h : stW o n kd I J P) (hn9 : n < 900000) : ∃ (k d2 mc ms d3 : Nat) (v w : Int32) (C : Nat → mK → mI → mJ → mP → Prop) (D : mK → mI → mP → Prop), (k ≤ 2 ∧ d2 ≤ 64 ∧ mc ≤ 1 ∧ ms ≤ 10240 ∧ d3 ≤ 63 ∧ (k = 0 → v = w)) ∧ CtW [(0, 14, 17, 18), (0, 14, 21, 13)] yL_changed cL_changed 7 (some .int) d2 mc ms [.ref o, .int a0, .int a1, .int a2, .int a3, .ref (o + 125)] n kd I J P (pWv o n kd I J P k v.toInt64 C) ∧ (∀ n1 kd1 I1 J1 P1, sameM (o + 69) kd kd1 I I1 P P1 → Ct yX10_changed cX10_changed 11 (some .int) d3 0 0 [.ref (o + 69), .int a0, .int a1, .int a2, .int a3] n1 kd1 I1 J1 P1 (pQ (o + 69) n1 kd1 I1 J1 P1 (some (.int w)) k D)) ∧ Nq o C D := by
  obtain ⟨⟨t, T, fp, rr, H, M, un, cs, tx, e, im, wk, hok, ⟨b, s, f, l, hC⟩, hR⟩, hout, ho9⟩ := h
  obtain ⟨k, d, mc, ms, d3, v, w, C, D, ⟨b1, b2, b3, b4, b5, b6, b7⟩, hT, hc, hq, hn⟩ := pr_changed o b s f l a0 a1 a2 a3 hC hok hR
  have hko := hC.1.1.1
  rcases (show k = 0 ∨ k = 1 ∨ k = 2 by omega) with rfl | rfl | rfl
  · exact ⟨0, d + 1, mc, ms, d3, v, w, C, D, ⟨by omega, by omega, b3, b4, b5, b6⟩, v_changed_0 o a0 a1 a2 a3 v hT hc hko hout, hq, hT, hn⟩
  · exact ⟨1, d + 1, mc, ms, d3, v, w, C, D, ⟨by omega, by omega, b3, b4, b5, b6⟩, v_changed_1 o a0 a1 a2 a3 _ hT hc hko hout, hq, hT, hn⟩
  · exact ⟨2, d + 1, mc, ms, d3, v, w, C, D, ⟨by omega, by omega, b3, b4, b5, b6⟩, v_changed_2 o a0 a1 a2 a3 _ hT hc hko hout, hq, hT, hn⟩

set_option maxHeartbeats 4000000 in
set_option maxRecDepth 100000 in
theorem ow_walk (o : Nat) (a0 : Int32) (a1 : Int32) (a2 : Int32) {n : Nat} {kd : mK} {I : mI} {J : mJ} {P : mP} (h : stW o n kd I J P) (hn9 : n < 900000) : ∃ (k d2 mc ms d3 : Nat) (v w : Int32) (C : Nat → mK → mI → mJ → mP → Prop) (D : mK → mI → mP → Prop), (k ≤ 2 ∧ d2 ≤ 64 ∧ mc ≤ 1 ∧ ms ≤ 10240 ∧ d3 ≤ 63 ∧ (k = 0 → v = w)) ∧ CtW [(0, 12, 15, 13)] yL_walk cL_walk 6 (some .int) d2 mc ms [.ref o, .int a0, .int a1, .int a2, .ref (o + 125)] n kd I J P (pWv o n kd I J P k v.toInt64 C) ∧ (∀ n1 kd1 I1 J1 P1, sameM (o + 69) kd kd1 I I1 P P1 → Ct yX10_walk cX10_walk 10 (some .int) d3 0 0 [.ref (o + 69), .int a0, .int a1, .int a2] n1 kd1 I1 J1 P1 (pQ (o + 69) n1 kd1 I1 J1 P1 (some (.int w)) k D)) ∧ Nq o C D := by
  obtain ⟨⟨t, T, fp, rr, H, M, un, cs, tx, e, im, wk, hok, ⟨b, s, f, l, hC⟩, hR⟩, hout, ho9⟩ := h
  obtain ⟨k, d, mc, ms, d3, v, w, C, D, ⟨b1, b2, b3, b4, b5, b6, b7⟩, hT, hc, hq, hn⟩ := pr_walk o b s f l a0 a1 a2 hC hok hR ho9 (by omega)
  have hko := hC.1.1.1
  rcases (show k = 0 ∨ k = 1 by omega) with rfl | rfl
  · exact ⟨0, d + 1, mc, ms, d3, v, w, C, D, ⟨by omega, by omega, b3, b4, b5, b6⟩, v_walk_0 o a0 a1 a2 v hT hc hko hout, hq, hT, hn⟩
  · exact ⟨1, d + 1, mc, ms, d3, v, w, C, D, ⟨by omega, by omega, b3, b4, b5, b6⟩, v_walk_1 o a0 a1 a2 _ hT hc hko hout, hq, hT, hn⟩

set_option maxHeartbeats 4000000 in
set_option maxRecDepth 100000 in
theorem ow_door (o : Nat) (a0 : Int32) {n : Nat} {kd : mK} {I : mI} {J : mJ} {P : mP} (h : stW o n kd I J P) (hn9 : n < 900000) : ∃ (k d2 mc ms d3 : Nat) (v w : Int32) (C : Nat → mK → mI → mJ → mP → Prop) (D : mK → mI → mP → Prop), (k ≤ 2 ∧ d2 ≤ 64 ∧ mc ≤ 1 ∧ ms ≤ 10240 ∧ d3 ≤ 63 ∧ (k = 0 → v = w)) ∧ CtW [(0, 9, 12, 18)] yL_door cL_door 4 (some .int) d2 mc ms [.ref o, .int a0, .ref (o + 125)] n kd I J P (pWv o n kd I J P k v.toInt64 C) ∧ (∀ n1 kd1 I1 J1 P1, sameM (o + 69) kd kd1 I I1 P P1 → Ct yX10_door cX10_door 2 (some .int) d3 0 0 [.ref (o + 69), .int a0] n1 kd1 I1 J1 P1 (pQ (o + 69) n1 kd1 I1 J1 P1 (some (.int w)) k D)) ∧ Nq o C D := by
  obtain ⟨⟨t, T, fp, rr, H, M, un, cs, tx, e, im, wk, hok, ⟨b, s, f, l, hC⟩, hR⟩, hout, ho9⟩ := h
  obtain ⟨k, d, mc, ms, d3, v, w, C, D, ⟨b1, b2, b3, b4, b5, b6, b7⟩, hT, hc, hq, hn⟩ := pr_door o b s f l a0 hC hok hR
  have hko := hC.1.1.1
  rcases (show k = 0 ∨ k = 1 by omega) with rfl | rfl
  · exact ⟨0, d + 1, mc, ms, d3, v, w, C, D, ⟨by omega, by omega, b3, b4, b5, b6⟩, v_door_0 o a0 v hT hc hko hout, hq, hT, hn⟩
  · exact ⟨1, d + 1, mc, ms, d3, v, w, C, D, ⟨by omega, by omega, b3, b4, b5, b6⟩, v_door_1 o a0 _ hT hc hko hout, hq, hT, hn⟩

set_option maxHeartbeats 4000000 in
set_option maxRecDepth 100000 in
theorem ow_ring (o : Nat) (a0 : Int32) (a1 : Int32) {n : Nat} {kd : mK} {I : mI} {J : mJ} {P : mP} (h : stW o n kd I J P) (hn9 : n < 900000) : ∃ (k d2 mc ms d3 : Nat) (v w : Int32) (C : Nat → mK → mI → mJ → mP → Prop) (D : mK → mI → mP → Prop), (k ≤ 2 ∧ d2 ≤ 64 ∧ mc ≤ 1 ∧ ms ≤ 10240 ∧ d3 ≤ 63 ∧ (k = 0 → v = w)) ∧ CtW [(0, 10, 13, 18)] yL_ring cL_ring 5 (some .int) d2 mc ms [.ref o, .int a0, .int a1, .ref (o + 125)] n kd I J P (pWv o n kd I J P k v.toInt64 C) ∧ (∀ n1 kd1 I1 J1 P1, sameM (o + 69) kd kd1 I I1 P P1 → Ct yX10_ring cX10_ring 3 (some .int) d3 0 0 [.ref (o + 69), .int a0, .int a1] n1 kd1 I1 J1 P1 (pQ (o + 69) n1 kd1 I1 J1 P1 (some (.int w)) k D)) ∧ Nq o C D := by
  obtain ⟨⟨t, T, fp, rr, H, M, un, cs, tx, e, im, wk, hok, ⟨b, s, f, l, hC⟩, hR⟩, hout, ho9⟩ := h
  obtain ⟨k, d, mc, ms, d3, v, w, C, D, ⟨b1, b2, b3, b4, b5, b6, b7⟩, hT, hc, hq, hn⟩ := pr_ring o b s f l a0 a1 hC hok hR
  have hko := hC.1.1.1
  rcases (show k = 0 ∨ k = 1 by omega) with rfl | rfl
  · exact ⟨0, d + 1, mc, ms, d3, v, w, C, D, ⟨by omega, by omega, b3, b4, b5, b6⟩, v_ring_0 o a0 a1 v hT hc hko hout, hq, hT, hn⟩
  · exact ⟨1, d + 1, mc, ms, d3, v, w, C, D, ⟨by omega, by omega, b3, b4, b5, b6⟩, v_ring_1 o a0 a1 _ hT hc hko hout, hq, hT, hn⟩

set_option maxHeartbeats 4000000 in
set_option maxRecDepth 100000 in
theorem ow_written (o : Nat) (a0 : Int32) {n : Nat} {kd : mK} {I : mI} {J : mJ} {P : mP} (h : stW o n kd I J P) (hn9 : n < 900000) : ∃ (k d2 mc ms d3 : Nat) (v w : Int32) (C : Nat → mK → mI → mJ → mP → Prop) (D : mK → mI → mP → Prop), (k ≤ 2 ∧ d2 ≤ 64 ∧ mc ≤ 1 ∧ ms ≤ 10240 ∧ d3 ≤ 63 ∧ (k = 0 → v = w)) ∧ CtW [(0, 9, 12, 18)] yL_written cL_written 4 (some .int) d2 mc ms [.ref o, .int a0, .ref (o + 125)] n kd I J P (pWv o n kd I J P k v.toInt64 C) ∧ (∀ n1 kd1 I1 J1 P1, sameM (o + 69) kd kd1 I I1 P P1 → Ct yX10_written cX10_written 2 (some .int) d3 0 0 [.ref (o + 69), .int a0] n1 kd1 I1 J1 P1 (pQ (o + 69) n1 kd1 I1 J1 P1 (some (.int w)) k D)) ∧ Nq o C D := by
  obtain ⟨⟨t, T, fp, rr, H, M, un, cs, tx, e, im, wk, hok, ⟨b, s, f, l, hC⟩, hR⟩, hout, ho9⟩ := h
  obtain ⟨k, d, mc, ms, d3, v, w, C, D, ⟨b1, b2, b3, b4, b5, b6, b7⟩, hT, hc, hq, hn⟩ := pr_written o b s f l a0 hC hok hR
  have hko := hC.1.1.1
  rcases (show k = 0 ∨ k = 1 by omega) with rfl | rfl
  · exact ⟨0, d + 1, mc, ms, d3, v, w, C, D, ⟨by omega, by omega, b3, b4, b5, b6⟩, v_written_0 o a0 v hT hc hko hout, hq, hT, hn⟩
  · exact ⟨1, d + 1, mc, ms, d3, v, w, C, D, ⟨by omega, by omega, b3, b4, b5, b6⟩, v_written_1 o a0 _ hT hc hko hout, hq, hT, hn⟩

set_option maxHeartbeats 4000000 in
set_option maxRecDepth 100000 in
theorem ow_left (o : Nat) (a0 : Int32) (a1 : Int32) {n : Nat} {kd : mK} {I : mI} {J : mJ} {P : mP} (h : stW o n kd I J P) (hn9 : n < 900000) : ∃ (k d2 mc ms d3 : Nat) (v w : Int32) (C : Nat → mK → mI → mJ → mP → Prop) (D : mK → mI → mP → Prop), (k ≤ 2 ∧ d2 ≤ 64 ∧ mc ≤ 1 ∧ ms ≤ 10240 ∧ d3 ≤ 63 ∧ (k = 0 → v = w)) ∧ CtW [(0, 10, 13, 18), (0, 10, 17, 13)] yL_left cL_left 5 (some .int) d2 mc ms [.ref o, .int a0, .int a1, .ref (o + 125)] n kd I J P (pWv o n kd I J P k v.toInt64 C) ∧ (∀ n1 kd1 I1 J1 P1, sameM (o + 69) kd kd1 I I1 P P1 → Ct yX10_left cX10_left 3 (some .int) d3 0 0 [.ref (o + 69), .int a0, .int a1] n1 kd1 I1 J1 P1 (pQ (o + 69) n1 kd1 I1 J1 P1 (some (.int w)) k D)) ∧ Nq o C D := by
  obtain ⟨⟨t, T, fp, rr, H, M, un, cs, tx, e, im, wk, hok, ⟨b, s, f, l, hC⟩, hR⟩, hout, ho9⟩ := h
  obtain ⟨k, d, mc, ms, d3, v, w, C, D, ⟨b1, b2, b3, b4, b5, b6, b7⟩, hT, hc, hq, hn⟩ := pr_left o b s f l a0 a1 hC hok hR
  have hko := hC.1.1.1
  rcases (show k = 0 ∨ k = 1 ∨ k = 2 by omega) with rfl | rfl | rfl
  · exact ⟨0, d + 1, mc, ms, d3, v, w, C, D, ⟨by omega, by omega, b3, b4, b5, b6⟩, v_left_0 o a0 a1 v hT hc hko hout, hq, hT, hn⟩
  · exact ⟨1, d + 1, mc, ms, d3, v, w, C, D, ⟨by omega, by omega, b3, b4, b5, b6⟩, v_left_1 o a0 a1 _ hT hc hko hout, hq, hT, hn⟩
  · exact ⟨2, d + 1, mc, ms, d3, v, w, C, D, ⟨by omega, by omega, b3, b4, b5, b6⟩, v_left_2 o a0 a1 _ hT hc hko hout, hq, hT, hn⟩

set_option maxHeartbeats 4000000 in
set_option maxRecDepth 100000 in
theorem ow_look (o : Nat) (a0 : Int32) (a1 : Int32) {n : Nat} {kd : mK} {I : mI} {J : mJ} {P : mP} (h : stW o n kd I J P) (hn9 : n < 900000) : ∃ (k d2 mc ms d3 : Nat) (v w : Int32) (C : Nat → mK → mI → mJ → mP → Prop) (D : mK → mI → mP → Prop), (k ≤ 2 ∧ d2 ≤ 64 ∧ mc ≤ 1 ∧ ms ≤ 10240 ∧ d3 ≤ 63 ∧ (k = 0 → v = w)) ∧ CtW [(0, 10, 13, 18)] yL_look cL_look 5 (some .int) d2 mc ms [.ref o, .int a0, .int a1, .ref (o + 125)] n kd I J P (pWv o n kd I J P k v.toInt64 C) ∧ (∀ n1 kd1 I1 J1 P1, sameM (o + 69) kd kd1 I I1 P P1 → Ct yX10_look cX10_look 8 (some .int) d3 0 0 [.ref (o + 69), .int a0, .int a1] n1 kd1 I1 J1 P1 (pQ (o + 69) n1 kd1 I1 J1 P1 (some (.int w)) k D)) ∧ Nq o C D := by
  obtain ⟨⟨t, T, fp, rr, H, M, un, cs, tx, e, im, wk, hok, ⟨b, s, f, l, hC⟩, hR⟩, hout, ho9⟩ := h
  obtain ⟨k, d, mc, ms, d3, v, w, C, D, ⟨b1, b2, b3, b4, b5, b6, b7⟩, hT, hc, hq, hn⟩ := pr_look o b s f l a0 a1 hC hok hR
  have hko := hC.1.1.1
  rcases (show k = 0 ∨ k = 1 by omega) with rfl | rfl
  · exact ⟨0, d + 1, mc, ms, d3, v, w, C, D, ⟨by omega, by omega, b3, b4, b5, b6⟩, v_look_0 o a0 a1 v hT hc hko hout, hq, hT, hn⟩
  · exact ⟨1, d + 1, mc, ms, d3, v, w, C, D, ⟨by omega, by omega, b3, b4, b5, b6⟩, v_look_1 o a0 a1 _ hT hc hko hout, hq, hT, hn⟩

set_option maxHeartbeats 4000000 in
set_option maxRecDepth 100000 in
theorem ow_plant (o : Nat) (a0 : Int32) (a1 : Int32) {n : Nat} {kd : mK} {I : mI} {J : mJ} {P : mP} (h : stW o n kd I J P) (hn9 : n < 900000) : ∃ (k d2 mc ms d3 : Nat) (v w : Int32) (C : Nat → mK → mI → mJ → mP → Prop) (D : mK → mI → mP → Prop), (k ≤ 2 ∧ d2 ≤ 64 ∧ mc ≤ 1 ∧ ms ≤ 10240 ∧ d3 ≤ 63 ∧ (k = 0 → v = w)) ∧ CtW [(0, 10, 13, 13)] yL_plant cL_plant 5 (some .int) d2 mc ms [.ref o, .int a0, .int a1, .ref (o + 125)] n kd I J P (pWv o n kd I J P k v.toInt64 C) ∧ (∀ n1 kd1 I1 J1 P1, sameM (o + 69) kd kd1 I I1 P P1 → Ct yX10_plant cX10_plant 3 (some .int) d3 0 0 [.ref (o + 69), .int a0, .int a1] n1 kd1 I1 J1 P1 (pQ (o + 69) n1 kd1 I1 J1 P1 (some (.int w)) k D)) ∧ Nq o C D := by
  obtain ⟨⟨t, T, fp, rr, H, M, un, cs, tx, e, im, wk, hok, ⟨b, s, f, l, hC⟩, hR⟩, hout, ho9⟩ := h
  obtain ⟨k, d, mc, ms, d3, v, w, C, D, ⟨b1, b2, b3, b4, b5, b6, b7⟩, hT, hc, hq, hn⟩ := pr_plant o b s f l a0 a1 hC hok hR
  have hko := hC.1.1.1
  rcases (show k = 0 ∨ k = 1 by omega) with rfl | rfl
  · exact ⟨0, d + 1, mc, ms, d3, v, w, C, D, ⟨by omega, by omega, b3, b4, b5, b6⟩, v_plant_0 o a0 a1 v hT hc hko hout, hq, hT, hn⟩
  · exact ⟨1, d + 1, mc, ms, d3, v, w, C, D, ⟨by omega, by omega, b3, b4, b5, b6⟩, v_plant_1 o a0 a1 _ hT hc hko hout, hq, hT, hn⟩

set_option maxHeartbeats 4000000 in
set_option maxRecDepth 100000 in
theorem ow_tried (o : Nat) (a0 : Int32) (a1 : Int32) (a2 : Int32) (a3 : Int32) {n : Nat} {kd : mK} {I : mI} {J : mJ} {P : mP} (h : stW o n kd I J P) (hn9 : n < 900000) : ∃ (k d2 mc ms d3 : Nat) (v w : Int32) (C : Nat → mK → mI → mJ → mP → Prop) (D : mK → mI → mP → Prop), (k ≤ 2 ∧ d2 ≤ 64 ∧ mc ≤ 1 ∧ ms ≤ 10240 ∧ d3 ≤ 63 ∧ (k = 0 → v = w)) ∧ CtW [(0, 14, 17, 18), (0, 14, 21, 13)] yL_tried cL_tried 7 (some .int) d2 mc ms [.ref o, .int a0, .int a1, .int a2, .int a3, .ref (o + 125)] n kd I J P (pWv o n kd I J P k v.toInt64 C) ∧ (∀ n1 kd1 I1 J1 P1, sameM (o + 69) kd kd1 I I1 P P1 → Ct yX10_tried cX10_tried 11 (some .int) d3 0 0 [.ref (o + 69), .int a0, .int a1, .int a2, .int a3] n1 kd1 I1 J1 P1 (pQ (o + 69) n1 kd1 I1 J1 P1 (some (.int w)) k D)) ∧ Nq o C D := by
  obtain ⟨⟨t, T, fp, rr, H, M, un, cs, tx, e, im, wk, hok, ⟨b, s, f, l, hC⟩, hR⟩, hout, ho9⟩ := h
  obtain ⟨k, d, mc, ms, d3, v, w, C, D, ⟨b1, b2, b3, b4, b5, b6, b7⟩, hT, hc, hq, hn⟩ := pr_tried o b s f l a0 a1 a2 a3 hC hok hR ho9 (by omega)
  have hko := hC.1.1.1
  rcases (show k = 0 ∨ k = 1 ∨ k = 2 by omega) with rfl | rfl | rfl
  · exact ⟨0, d + 1, mc, ms, d3, v, w, C, D, ⟨by omega, by omega, b3, b4, b5, b6⟩, v_tried_0 o a0 a1 a2 a3 v hT hc hko hout, hq, hT, hn⟩
  · exact ⟨1, d + 1, mc, ms, d3, v, w, C, D, ⟨by omega, by omega, b3, b4, b5, b6⟩, v_tried_1 o a0 a1 a2 a3 _ hT hc hko hout, hq, hT, hn⟩
  · exact ⟨2, d + 1, mc, ms, d3, v, w, C, D, ⟨by omega, by omega, b3, b4, b5, b6⟩, v_tried_2 o a0 a1 a2 a3 _ hT hc hko hout, hq, hT, hn⟩

set_option maxHeartbeats 4000000 in
set_option maxRecDepth 100000 in
theorem ow_restore (o : Nat) {n : Nat} {kd : mK} {I : mI} {J : mJ} {P : mP} (h : stW o n kd I J P) (hn9 : n < 900000) : ∃ (d2 mc ms d3 : Nat) (v w : Int32) (C : Nat → mK → mI → mJ → mP → Prop) (D : mK → mI → mP → Prop), (d2 ≤ 63 ∧ mc ≤ 1 ∧ ms ≤ 10240 ∧ d3 ≤ 63 ∧ v = w) ∧ Ct yX9_restore cX9_restore 1 (some .boolean) d2 mc ms [.ref o] n kd I J P (pK o n kd I J P (.inl (some (.int v))) C) ∧ (∀ n1 kd1 I1 J1 P1, sameM (o + 69) kd kd1 I I1 P P1 → Ct yX10_restore cX10_restore 1 (some .boolean) d3 0 0 [.ref (o + 69)] n1 kd1 I1 J1 P1 (pQ (o + 69) n1 kd1 I1 J1 P1 (some (.int w)) 0 D)) ∧ Nq o C D := by
  obtain ⟨⟨t, T, fp, rr, H, M, un, cs, tx, e, im, wk, hok, ⟨b, s, f, l, hC⟩, hR⟩, hout, ho9⟩ := h
  obtain ⟨k, d, mc, ms, d3, v, w, C, D, ⟨b1, b2, b3, b4, b5, b6, b7⟩, hT, hc, hq, hn⟩ := pr_restore o b s f l  hC hok hR
  have hko := hC.1.1.1
  obtain rfl : k = 0 := by omega
  exact ⟨d, mc, ms, d3, v, w, C, D, ⟨b2, b3, b4, b5, b6 rfl⟩, hc, hq, hT, hn⟩


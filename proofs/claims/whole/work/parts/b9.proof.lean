/-! PROOFS: a search with a number barred; the class -/
def resB (un : Bool) (Lt : Nat → Int32) (L H M : Nat) (lk : Nat → Nat) (tv : (Nat → Nat) → Nat → Bool) (s h v : Nat) : Nat × List (Nat → Nat) × Bool := (skTop (TN un Lt L (nI s) (nI 0) lk tv H) (barS (nI h) (nI v)) H M 1).getD (0, [], false)
theorem resB_eq {un : Bool} {Lt : Nat → Int32} {L H M : Nat} {lk : Nat → Nat} {tv : (Nat → Nat) → Nat → Bool} (s h v : Nat) (hH : H ≤ 8) (hM : M ≤ 20) : skTop (TN un Lt L (nI s) (nI 0) lk tv H) (barS (nI h) (nI v)) H M 1 = some (resB un Lt L H M lk tv s h v) := by
  obtain ⟨res, q⟩ := skTop_total (TN un Lt L (nI s) (nI 0) lk tv H) (nI h) (nI v) 1 hH hM
  unfold resB
  rw [q]
  rfl
/-- whether riddles make a house sure: 0 they do, 1 they don't, -2 spent -/
def RPf (un : Bool) (Lt : Nat → Int32) (L H M : Nat) (lk : Nat → Nat) (tv : (Nat → Nat) → Nat → Bool) (h s : Nat) : Int32 := if (resK un Lt L H M lk tv s).2.2 = true then -2 else if (resK un Lt L H M lk tv s).2.1.length = 0 then nI 1 else if (resB un Lt L H M lk tv s h (nmF (resK un Lt L H M lk tv s).2.1 0 h)).2.2 = true then -2 else nI (resB un Lt L H M lk tv s h (nmF (resK un Lt L H M lk tv s).2.1 0 h)).2.1.length
def srI (r : Int32) : Int32 := if r = -2 then -2 else nI 1 - r
theorem resK_len {un : Bool} {Lt : Nat → Int32} {L H M : Nat} {lk : Nat → Nat} {tv : (Nat → Nat) → Nat → Bool} (s : Nat) (hH : H ≤ 8) (hM : M ≤ 20) : (resK un Lt L H M lk tv s).2.1.length ≤ 1 := skTop_len (by decide) (resK_eq s hH hM)
theorem resB_len {un : Bool} {Lt : Nat → Int32} {L H M : Nat} {lk : Nat → Nat} {tv : (Nat → Nat) → Nat → Bool} (s h v : Nat) (hH : H ≤ 8) (hM : M ≤ 20) : (resB un Lt L H M lk tv s h v).2.1.length ≤ 1 := skTop_len (by decide) (resB_eq s h v hH hM)
theorem resK_rng {un : Bool} {Lt : Nat → Int32} {L H M : Nat} {lk : Nat → Nat} {tv : (Nat → Nat) → Nat → Bool} (s : Nat) (hH : H ≤ 8) (hM : M ≤ 20) : fRng H M (resK un Lt L H M lk tv s).2.1 := (skTop_dif (resK_eq s hH hM)).2
set_option maxHeartbeats 4000000 in
theorem c_seekG (o b l H M L : Nat) (r w : Int32) (lk : Nat → Nat) (rid : Nat → List Nat) (un : Bool) (Lt so de A0 B0 f : Nat → Int32) (E : Nat) (res : Nat × List (Nat → Nat) × Bool) {n : Nat} {kd : mK} {I : mI} {J : mJ} {P : mP} (hS : kS kd P b) (hL : kL kd P l) (hQ : kQ kd P o) (hbl : b + 9 < l) (hlo : l + 5 < o) (hH8 : H ≤ 8) (hc : clS I b l H M L lk rid un Lt so de) (hM20 : M ≤ 20) (hE : E ≤ 1001) (hE1 : 1 ≤ E) (hpb : P o 0 = some b) (hpl : P o 1 = some l) (u1 : I (o + 1) = askR r lk A0 H) (hA0 : ∀ j, j < 8 → A0 j = nI 0) (u2 : I (o + 2) = alwR f B0 H) (hf : ∀ i, i < H → f i = if w = 0 then -1 else llv (I (l + 4)) (I (l + 5)) (nI i) L) (hr : ∀ k, k < 8 → bt r k = true → bt (I b 3) k = true) (hsk : skTop (TN un Lt L r w lk (tvN so de (nI M) H rid) H) (barS (I o 4) (I o 5)) H M E = some res) : Ct yX6_seek cX6_seek 5 (some .int) 6 0 0 [.ref o, .int (nI E)] n kd I J P (fun z n' kd' I' J' P' => z = .inl (some (.int (skv res.2.2 res.2.1))) ∧ n' = n ∧ kd' = kd ∧ P' = P ∧ (∀ a, a ≠ o → a ≠ o + 3 → a ≠ o + 5 → a ≠ b + 8 → I' a = I a) ∧ (∀ k, k ≠ 9 → k ≠ 10 → I' o k = I o k) ∧ (∀ a, a ≠ o + 4 → J' a = J a) ∧ J' (o + 4) = JR H (J (o + 4)) res.2.1) := by
  obtain ⟨h1, h2, h3, h4, h5, h6, h7, h8, h9⟩ := hc
  have hsk' : skTop (TS I o b l H rid) (barS (I o 4) (I o 5)) H M E = some res := by
    rw [← hsk]
    refine skTop_cg (fun N h hh hN => ?_)
    have ht := TS_TN (I := I) (o := o) (b := b) (l := l) (H := H) (L := L) (r := r) (w := w) (lk := lk) (rid := rid) (A0 := A0) (B0 := B0) (f := f) (Lt := Lt) (un := un) hbl hlo hH8 u1 hA0 u2 hf h7 h3 N h hh (by have := hN h; omega)
    rw [ht, h8, h9, h2]
  refine Ct.mono (c_X6_seek o b l H M E rid res hS hL hQ hpb hpl hbl hlo hH8 h1 h2 hM20 hE (fun h hh k hk hx => ?_) hE1 hsk') ?_
  · rw [u1, askR_bit r lk _ (hA0 h (by omega)) (by omega) H (by omega)] at hx
    simp at hx
    exact h5 k hk (hr k hk hx.2.1)
  · rintro z n' kd' I' J' P' ⟨Q, R, rfl, rfl, rfl, rfl, rfl, rfl⟩
    refine ⟨rfl, rfl, rfl, rfl, fun a a1 a2 a3 a4 => sM_n a4 a2 a3 a1, fun k k1 k2 => ?_, fun a x => am_up_n _ _ x, am_up_s _ _ _⟩
    rw [sM_o]
    unfold oR
    rw [am_up_n _ _ k2, am_up_n _ _ k1]
theorem dX0_makesSure_0 : decode cX0_makesSure 0 = .ok (.aload_n 0, 1) := by decide +kernel
theorem dX0_makesSure_1 : decode cX0_makesSure 1 = .ok (.getfield 12, 3) := by decide +kernel
theorem dX0_makesSure_4 : decode cX0_makesSure 4 = .ok (.iconst 1, 1) := by decide +kernel
theorem dX0_makesSure_5 : decode cX0_makesSure 5 = .ok (.invokevirtual 42, 3) := by decide +kernel
theorem dX0_makesSure_8 : decode cX0_makesSure 8 = .ok (.istore_n 2, 1) := by decide +kernel
theorem dX0_makesSure_9 : decode cX0_makesSure 9 = .ok (.iload_n 2, 1) := by decide +kernel
theorem dX0_makesSure_10 : decode cX0_makesSure 10 = .ok (.iconst 1, 1) := by decide +kernel
theorem dX0_makesSure_11 : decode cX0_makesSure 11 = .ok (.if_icmp .ge 5, 3) := by decide +kernel
theorem dX0_makesSure_14 : decode cX0_makesSure 14 = .ok (.iload_n 2, 1) := by decide +kernel
theorem dX0_makesSure_15 : decode cX0_makesSure 15 = .ok (.ireturn, 1) := by decide +kernel
theorem dX0_makesSure_16 : decode cX0_makesSure 16 = .ok (.aload_n 0, 1) := by decide +kernel
theorem dX0_makesSure_17 : decode cX0_makesSure 17 = .ok (.getfield 12, 3) := by decide +kernel
theorem dX0_makesSure_20 : decode cX0_makesSure 20 = .ok (.iload_n 1, 1) := by decide +kernel
theorem dX0_makesSure_21 : decode cX0_makesSure 21 = .ok (.aload_n 0, 1) := by decide +kernel
theorem dX0_makesSure_22 : decode cX0_makesSure 22 = .ok (.getfield 12, 3) := by decide +kernel
theorem dX0_makesSure_25 : decode cX0_makesSure 25 = .ok (.iconst 0, 1) := by decide +kernel
theorem dX0_makesSure_26 : decode cX0_makesSure 26 = .ok (.iload_n 1, 1) := by decide +kernel
theorem dX0_makesSure_27 : decode cX0_makesSure 27 = .ok (.invokevirtual 58, 3) := by decide +kernel
theorem dX0_makesSure_30 : decode cX0_makesSure 30 = .ok (.invokevirtual 62, 3) := by decide +kernel
theorem dX0_makesSure_33 : decode cX0_makesSure 33 = .ok (.aload_n 0, 1) := by decide +kernel
theorem dX0_makesSure_34 : decode cX0_makesSure 34 = .ok (.getfield 12, 3) := by decide +kernel
theorem dX0_makesSure_37 : decode cX0_makesSure 37 = .ok (.iconst 1, 1) := by decide +kernel
theorem dX0_makesSure_38 : decode cX0_makesSure 38 = .ok (.invokevirtual 42, 3) := by decide +kernel
theorem dX0_makesSure_41 : decode cX0_makesSure 41 = .ok (.istore_n 3, 1) := by decide +kernel
theorem dX0_makesSure_42 : decode cX0_makesSure 42 = .ok (.iload_n 3, 1) := by decide +kernel
theorem dX0_makesSure_43 : decode cX0_makesSure 43 = .ok (.bipush (-2), 2) := by decide +kernel
theorem dX0_makesSure_45 : decode cX0_makesSure 45 = .ok (.if_icmp .ne 8, 3) := by decide +kernel
theorem dX0_makesSure_48 : decode cX0_makesSure 48 = .ok (.bipush (-2), 2) := by decide +kernel
theorem dX0_makesSure_50 : decode cX0_makesSure 50 = .ok (.goto 6, 3) := by decide +kernel
theorem dX0_makesSure_53 : decode cX0_makesSure 53 = .ok (.iconst 1, 1) := by decide +kernel
theorem dX0_makesSure_54 : decode cX0_makesSure 54 = .ok (.iload_n 3, 1) := by decide +kernel
theorem dX0_makesSure_55 : decode cX0_makesSure 55 = .ok (.isub, 1) := by decide +kernel
theorem dX0_makesSure_56 : decode cX0_makesSure 56 = .ok (.ireturn, 1) := by decide +kernel

set_option maxHeartbeats 4000000 in
set_option maxRecDepth 100000 in
theorem c_X0_makesSure (a s b l H M L h t : Nat) (lk : Nat → Nat) (rid : Nat → List Nat) (un : Bool) (Lt so de : Nat → Int32) {n : Nat} {kd : mK} {I : mI} {J : mJ} {P : mP} (hH8 : H ≤ 8) (hM20 : M ≤ 20) (hh : h < H) (hk : knH kd I P a s b l H M L lk rid un Lt so de) (hpb : ∀ k, k < 8 → bt (nI t) k = true → bt (I b 3) k = true) : Ct yX0_makesSure cX0_makesSure 4 (some .int) 7 0 0 [.ref a, .int (nI h)] n kd (suI I s l (nI t) (nI 0) lk H L) J (suP P s b l) (fun y n' kd' I' J' P' => y = .inl (some (.int (srI (RPf un Lt L H M lk (tvN so de (nI M) H rid) h t)))) ∧ n' = n ∧ kd' = kd ∧ qFr s b I I' J J' P P') := by
  obtain ⟨⟨k0, k1, k9⟩, k2, k3, k4, k5, k6, k7, k8⟩ := hk
  have k8' := k8
  have uI : ∀ x, x ≠ s → x ≠ s + 1 → x ≠ s + 2 → suI I s l (nI t) (nI 0) lk H L x = I x := fun x x1 y z => by unfold suI; rw [am_up_n _ _ z, am_up_n _ _ y, am_up_n _ _ x1]
  have u1 : suI I s l (nI t) (nI 0) lk H L (s + 1) = askR (nI t) lk (fun j => if j < 8 then nI 0 else I (s + 1) j) H := by unfold suI; rw [am_up_n _ _ (by omega), am_up_s]
  have u2 : suI I s l (nI t) (nI 0) lk H L (s + 2) = alwR (fF I l (nI 0) L) (I (s + 2)) H := by unfold suI; rw [am_up_s]
  have u0 : suI I s l (nI t) (nI 0) lk H L s = va_up (I s) 4 (-1) := by unfold suI; rw [am_up_n _ _ (by omega), am_up_n _ _ (by omega), am_up_s]
  have pP : ∀ x, x ≠ s → suP P s b l x = P x := fun x x1 => am_up_n _ _ x1
  have hf0 : qFr s b I (suI I s l (nI t) (nI 0) lk H L) J J P (suP P s b l) := ⟨fun x x1 y => uI x (by omega) (by omega) (by omega), fun _ _ => rfl, pP, fun k x y => by unfold suP; rw [am_up_s, am_up_n _ _ y, am_up_n _ _ x]⟩
  have g2 := k2.congr (pP b (by omega))
  have g3 := k3.congr (pP l (by omega))
  have g4 := k4.fr hf0
  have gc := k8.fr k5 k6 hf0
  have ga : suP P s b l a 0 = some s := by rw [pP a k9]; exact k1
  have gpb : suP P s b l s 0 = some b := by unfold suP; rw [am_up_s]; rfl
  have gpl : suP P s b l s 1 = some l := by unfold suP; rw [am_up_s]; rfl
  have hl1 := resK_len (un := un) (Lt := Lt) (L := L) (H := H) (M := M) (lk := lk) (tv := tvN so de (nI M) H rid) t hH8 hM20
  have hl2 := resB_len (un := un) (Lt := Lt) (L := L) (H := H) (M := M) (lk := lk) (tv := tvN so de (nI M) H rid) t h (nmF (resK un Lt L H M lk (tvN so de (nI M) H rid) t).2.1 0 h) hH8 hM20
  have hrg := resK_rng (un := un) (Lt := Lt) (L := L) (H := H) (M := M) (lk := lk) (tv := tvN so de (nI M) H rid) t hH8 hM20
  have hb3 : ∀ k, k < 8 → bt (nI t) k = true → bt (suI I s l (nI t) (nI 0) lk H L b 3) k = true := fun k hk hx => by rw [uI b (by omega) (by omega) (by omega)]; exact hpb k hk hx
  refine ct_of 2 (by decide +kernel) (Nat.le_of_ble_eq_true rfl) rfl ?_
  by_cases c1 : (resK un Lt L H M lk (tvN so de (nI M) H rid) t).2.2 = true
  · skip
    refine r_aload_n dX0_makesSure_0 rfl ?_
    refine r_getR dX0_makesSure_1 fl_X0_12 rfl k0 ga ?_
    refine r_iconst (v := nI 1) dX0_makesSure_4 (by decide) ?_
    refine r_virt (kc2 := 0) (ks2 := 0) (c_seekG s b l H M L (nI t) (nI 0) lk rid un Lt so de (fun j => if j < 8 then nI 0 else I (s + 1) j) (I (s + 2)) (fF I l (nI 0) L) 1 (resK un Lt L H M lk (tvN so de (nI M) H rid) t) g2 g3 g4 k5 k6 hH8 gc hM20 (by decide) (by decide) gpb gpl u1 (fun j hj => if_pos hj) u2 (fun i hi => by rw [uI _ (by omega) (by omega) (by omega), uI _ (by omega) (by omega) (by omega)]; rfl) hb3 (by rw [skTop_bar hH8 (by rw [u0, am_up_s])]; exact resK_eq t hH8 hM20)) lk_X0_42 mc_X6_seek dX0_makesSure_5 g4.1 (by decide) rfl rfl (Nat.le_of_ble_eq_true rfl) (by decide) (by decide) (fun _ _ _ _ _ _ h => nomatch h.1) ?_
    rintro v1 n1 kd1 I1 J1 P1 ⟨h00, rfl, rfl, rfl, f1, f2, f3, f4⟩
    cases h00
    simp only [Option.toList, List.nil_append, List.cons_append]
    rw [show skv (resK un Lt L H M lk (tvN so de (nI M) H rid) t).2.2 (resK un Lt L H M lk (tvN so de (nI M) H rid) t).2.1 = -2 from by unfold skv; rw [if_pos c1]]
    refine r_istore_n dX0_makesSure_8 (by decide) ?_
    refine r_iload_n dX0_makesSure_9 rfl ?_
    refine r_iconst (v := nI 1) dX0_makesSure_10 (by decide) ?_
    refine r_icmp_ge (tgt := 16) dX0_makesSure_11 (by decide) (fun hz => absurd hz (show ¬ _ from (by decide))) (fun _ => ?_)
    refine r_iload_n dX0_makesSure_14 rfl ?_
    refine r_iret rfl dX0_makesSure_15 ?_
    exact ⟨by rw [show RPf un Lt L H M lk (tvN so de (nI M) H rid) h t = -2 from by unfold RPf; rw [if_pos c1]]; rfl, rfl, rfl, (⟨fun x x1 y => (f1 x (by omega) (by omega) (by omega) y).trans (hf0.1 x x1 y), fun x x1 => (f3 x x1).trans (hf0.2.1 x x1), hf0.2.2.1, hf0.2.2.2⟩ : qFr s b I I1 J J1 P (suP P s b l))⟩
  · by_cases c2 : (resK un Lt L H M lk (tvN so de (nI M) H rid) t).2.1.length = 0
    · skip
      refine r_aload_n dX0_makesSure_0 rfl ?_
      refine r_getR dX0_makesSure_1 fl_X0_12 rfl k0 ga ?_
      refine r_iconst (v := nI 1) dX0_makesSure_4 (by decide) ?_
      refine r_virt (kc2 := 0) (ks2 := 0) (c_seekG s b l H M L (nI t) (nI 0) lk rid un Lt so de (fun j => if j < 8 then nI 0 else I (s + 1) j) (I (s + 2)) (fF I l (nI 0) L) 1 (resK un Lt L H M lk (tvN so de (nI M) H rid) t) g2 g3 g4 k5 k6 hH8 gc hM20 (by decide) (by decide) gpb gpl u1 (fun j hj => if_pos hj) u2 (fun i hi => by rw [uI _ (by omega) (by omega) (by omega), uI _ (by omega) (by omega) (by omega)]; rfl) hb3 (by rw [skTop_bar hH8 (by rw [u0, am_up_s])]; exact resK_eq t hH8 hM20)) lk_X0_42 mc_X6_seek dX0_makesSure_5 g4.1 (by decide) rfl rfl (Nat.le_of_ble_eq_true rfl) (by decide) (by decide) (fun _ _ _ _ _ _ h => nomatch h.1) ?_
      rintro v1 n1 kd1 I1 J1 P1 ⟨h00, rfl, rfl, rfl, f1, f2, f3, f4⟩
      cases h00
      simp only [Option.toList, List.nil_append, List.cons_append]
      rw [show skv (resK un Lt L H M lk (tvN so de (nI M) H rid) t).2.2 (resK un Lt L H M lk (tvN so de (nI M) H rid) t).2.1 = nI 0 from by unfold skv; rw [if_neg c1, c2]]
      refine r_istore_n dX0_makesSure_8 (by decide) ?_
      refine r_iload_n dX0_makesSure_9 rfl ?_
      refine r_iconst (v := nI 1) dX0_makesSure_10 (by decide) ?_
      refine r_icmp_ge (tgt := 16) dX0_makesSure_11 (by decide) (fun hz => absurd hz (show ¬ _ from (by decide))) (fun _ => ?_)
      refine r_iload_n dX0_makesSure_14 rfl ?_
      refine r_iret rfl dX0_makesSure_15 ?_
      exact ⟨by rw [show RPf un Lt L H M lk (tvN so de (nI M) H rid) h t = nI 1 from by unfold RPf; rw [if_neg c1, if_pos c2]]; rfl, rfl, rfl, (⟨fun x x1 y => (f1 x (by omega) (by omega) (by omega) y).trans (hf0.1 x x1 y), fun x x1 => (f3 x x1).trans (hf0.2.1 x x1), hf0.2.2.1, hf0.2.2.2⟩ : qFr s b I I1 J J1 P (suP P s b l))⟩
    · by_cases c3 : (resB un Lt L H M lk (tvN so de (nI M) H rid) t h (nmF (resK un Lt L H M lk (tvN so de (nI M) H rid) t).2.1 0 h)).2.2 = true
      · skip
        refine r_aload_n dX0_makesSure_0 rfl ?_
        refine r_getR dX0_makesSure_1 fl_X0_12 rfl k0 ga ?_
        refine r_iconst (v := nI 1) dX0_makesSure_4 (by decide) ?_
        refine r_virt (kc2 := 0) (ks2 := 0) (c_seekG s b l H M L (nI t) (nI 0) lk rid un Lt so de (fun j => if j < 8 then nI 0 else I (s + 1) j) (I (s + 2)) (fF I l (nI 0) L) 1 (resK un Lt L H M lk (tvN so de (nI M) H rid) t) g2 g3 g4 k5 k6 hH8 gc hM20 (by decide) (by decide) gpb gpl u1 (fun j hj => if_pos hj) u2 (fun i hi => by rw [uI _ (by omega) (by omega) (by omega), uI _ (by omega) (by omega) (by omega)]; rfl) hb3 (by rw [skTop_bar hH8 (by rw [u0, am_up_s])]; exact resK_eq t hH8 hM20)) lk_X0_42 mc_X6_seek dX0_makesSure_5 g4.1 (by decide) rfl rfl (Nat.le_of_ble_eq_true rfl) (by decide) (by decide) (fun _ _ _ _ _ _ h => nomatch h.1) ?_
        rintro v1 n1 kd1 I1 J1 P1 ⟨h00, rfl, rfl, rfl, f1, f2, f3, f4⟩
        cases h00
        simp only [Option.toList, List.nil_append, List.cons_append]
        rw [show skv (resK un Lt L H M lk (tvN so de (nI M) H rid) t).2.2 (resK un Lt L H M lk (tvN so de (nI M) H rid) t).2.1 = nI 1 from by unfold skv; rw [if_neg c1, show (resK un Lt L H M lk (tvN so de (nI M) H rid) t).2.1.length = 1 by omega]]
        refine r_istore_n dX0_makesSure_8 (by decide) ?_
        refine r_iload_n dX0_makesSure_9 rfl ?_
        refine r_iconst (v := nI 1) dX0_makesSure_10 (by decide) ?_
        refine r_icmp_ge (tgt := 16) dX0_makesSure_11 (by decide) (fun _ => ?_) (fun hz => absurd (show _ from (by decide)) hz)
        refine r_aload_n dX0_makesSure_16 rfl ?_
        refine r_getR dX0_makesSure_17 fl_X0_12 rfl k0 ga ?_
        refine r_iload_n dX0_makesSure_20 rfl ?_
        refine r_aload_n dX0_makesSure_21 rfl ?_
        refine r_getR dX0_makesSure_22 fl_X0_12 rfl k0 ga ?_
        refine r_iconst (v := nI 0) dX0_makesSure_25 (by decide) ?_
        refine r_iload_n dX0_makesSure_26 rfl ?_
        refine r_virtE (c_numN s 0 h (nmF (resK un Lt L H M lk (tvN so de (nI M) H rid) t).2.1 0 h) g4.1 g4.2.2.2.2.2.2.2.2.2.1 g4.2.2.2.2.1 (by decide) (by rw [f4]; exact pk_num hrg hM20 hH8 (by omega) (by omega) hh)) lk_X0_58 mc_X6_numberIn dX0_makesSure_27 g4.1 (by decide) rfl rfl (Nat.le_of_ble_eq_true rfl) ?_
        refine r_virtV (c_X6_bar s (nI h) (nI (nmF (resK un Lt L H M lk (tvN so de (nI M) H rid) t).2.1 0 h)) g4) lk_X0_62 mc_X6_bar dX0_makesSure_30 g4.1 (by decide) rfl rfl (Nat.le_of_ble_eq_true rfl) ?_
        have i2 : ∀ x, x ≠ s → (va_up I1 s (va_up (va_up (I1 s) 4 (nI h)) 5 (nI (nmF (resK un Lt L H M lk (tvN so de (nI M) H rid) t).2.1 0 h)))) x = I1 x := fun x x1 => am_up_n _ _ x1
        have i24 : (va_up I1 s (va_up (va_up (I1 s) 4 (nI h)) 5 (nI (nmF (resK un Lt L H M lk (tvN so de (nI M) H rid) t).2.1 0 h)))) s 4 = nI h := by rw [am_up_s, am_up_n _ _ (by decide), am_up_s]
        have i25 : (va_up I1 s (va_up (va_up (I1 s) 4 (nI h)) 5 (nI (nmF (resK un Lt L H M lk (tvN so de (nI M) H rid) t).2.1 0 h)))) s 5 = nI (nmF (resK un Lt L H M lk (tvN so de (nI M) H rid) t).2.1 0 h) := by rw [am_up_s, am_up_s]
        generalize (va_up I1 s (va_up (va_up (I1 s) 4 (nI h)) 5 (nI (nmF (resK un Lt L H M lk (tvN so de (nI M) H rid) t).2.1 0 h)))) = I2 at i2 i24 i25 ⊢
        have gc2 : clS I2 b l H M L lk rid un Lt so de := gc.cg (fun x x1 x2 => by rw [i2 x (by omega), f1 x (by omega) (by omega) (by omega) (by omega)]) (fun x x1 x2 => by rw [i2 x (by omega), f1 x (by omega) (by omega) (by omega) (by omega)])
        refine r_aload_n dX0_makesSure_33 rfl ?_
        refine r_getR dX0_makesSure_34 fl_X0_12 rfl k0 ga ?_
        refine r_iconst (v := nI 1) dX0_makesSure_37 (by decide) ?_
        refine r_virt (kc2 := 0) (ks2 := 0) (c_seekG s b l H M L (nI t) (nI 0) lk rid un Lt so de (fun j => if j < 8 then nI 0 else I (s + 1) j) (I (s + 2)) (fF I l (nI 0) L) 1 (resB un Lt L H M lk (tvN so de (nI M) H rid) t h (nmF (resK un Lt L H M lk (tvN so de (nI M) H rid) t).2.1 0 h)) g2 g3 g4 k5 k6 hH8 gc2 hM20 (by decide) (by decide) gpb gpl (by rw [i2 _ (by omega), f1 _ (by omega) (by omega) (by omega) (by omega)]; exact u1) (fun j hj => if_pos hj) (by rw [i2 _ (by omega), f1 _ (by omega) (by omega) (by omega) (by omega)]; exact u2) (fun i hi => by rw [i2 _ (by omega), i2 _ (by omega), f1 _ (by omega) (by omega) (by omega) (by omega), f1 _ (by omega) (by omega) (by omega) (by omega), uI _ (by omega) (by omega) (by omega), uI _ (by omega) (by omega) (by omega)]; rfl) (fun k hk hx => by rw [i2 _ (by omega), f1 _ (by omega) (by omega) (by omega) (by omega)]; exact hb3 k hk hx) (by rw [i24, i25]; exact resB_eq t h _ hH8 hM20)) lk_X0_42 mc_X6_seek dX0_makesSure_38 g4.1 (by decide) rfl rfl (Nat.le_of_ble_eq_true rfl) (by decide) (by decide) (fun _ _ _ _ _ _ h => nomatch h.1) ?_
        rintro v3 n3 kd3 I3 J3 P3 ⟨h00, rfl, rfl, rfl, e1, e2, e3, e4⟩
        cases h00
        simp only [Option.toList, List.nil_append, List.cons_append]
        have hfq : qFr s b I I3 J J3 P (suP P s b l) := ⟨fun x x1 y => by rw [e1 x (by omega) (by omega) (by omega) y, i2 x (by omega)]; exact (f1 x (by omega) (by omega) (by omega) y).trans (hf0.1 x x1 y), fun x x1 => (e3 x x1).trans ((f3 x x1).trans (hf0.2.1 x x1)), hf0.2.2.1, hf0.2.2.2⟩
        rw [show skv (resB un Lt L H M lk (tvN so de (nI M) H rid) t h (nmF (resK un Lt L H M lk (tvN so de (nI M) H rid) t).2.1 0 h)).2.2 (resB un Lt L H M lk (tvN so de (nI M) H rid) t h (nmF (resK un Lt L H M lk (tvN so de (nI M) H rid) t).2.1 0 h)).2.1 = -2 from by unfold skv; rw [if_pos c3]]
        refine r_istore_n dX0_makesSure_41 (by decide) ?_
        refine r_iload_n dX0_makesSure_42 rfl ?_
        refine r_bipush (v := (-2)) dX0_makesSure_43 (by decide) ?_
        refine r_icmp_ne (tgt := 53) dX0_makesSure_45 (by decide) (fun hz => absurd (show _ from rfl) hz) (fun _ => ?_)
        refine r_bipush (v := (-2)) dX0_makesSure_48 (by decide) ?_
        refine r_goto (tgt := 56) dX0_makesSure_50 (by decide) ?_
        refine r_iret rfl dX0_makesSure_56 ?_
        exact ⟨by rw [show RPf un Lt L H M lk (tvN so de (nI M) H rid) h t = -2 from by unfold RPf; rw [if_neg c1, if_neg c2, if_pos c3]]; rfl, rfl, rfl, hfq⟩
      · skip
        refine r_aload_n dX0_makesSure_0 rfl ?_
        refine r_getR dX0_makesSure_1 fl_X0_12 rfl k0 ga ?_
        refine r_iconst (v := nI 1) dX0_makesSure_4 (by decide) ?_
        refine r_virt (kc2 := 0) (ks2 := 0) (c_seekG s b l H M L (nI t) (nI 0) lk rid un Lt so de (fun j => if j < 8 then nI 0 else I (s + 1) j) (I (s + 2)) (fF I l (nI 0) L) 1 (resK un Lt L H M lk (tvN so de (nI M) H rid) t) g2 g3 g4 k5 k6 hH8 gc hM20 (by decide) (by decide) gpb gpl u1 (fun j hj => if_pos hj) u2 (fun i hi => by rw [uI _ (by omega) (by omega) (by omega), uI _ (by omega) (by omega) (by omega)]; rfl) hb3 (by rw [skTop_bar hH8 (by rw [u0, am_up_s])]; exact resK_eq t hH8 hM20)) lk_X0_42 mc_X6_seek dX0_makesSure_5 g4.1 (by decide) rfl rfl (Nat.le_of_ble_eq_true rfl) (by decide) (by decide) (fun _ _ _ _ _ _ h => nomatch h.1) ?_
        rintro v1 n1 kd1 I1 J1 P1 ⟨h00, rfl, rfl, rfl, f1, f2, f3, f4⟩
        cases h00
        simp only [Option.toList, List.nil_append, List.cons_append]
        rw [show skv (resK un Lt L H M lk (tvN so de (nI M) H rid) t).2.2 (resK un Lt L H M lk (tvN so de (nI M) H rid) t).2.1 = nI 1 from by unfold skv; rw [if_neg c1, show (resK un Lt L H M lk (tvN so de (nI M) H rid) t).2.1.length = 1 by omega]]
        refine r_istore_n dX0_makesSure_8 (by decide) ?_
        refine r_iload_n dX0_makesSure_9 rfl ?_
        refine r_iconst (v := nI 1) dX0_makesSure_10 (by decide) ?_
        refine r_icmp_ge (tgt := 16) dX0_makesSure_11 (by decide) (fun _ => ?_) (fun hz => absurd (show _ from (by decide)) hz)
        refine r_aload_n dX0_makesSure_16 rfl ?_
        refine r_getR dX0_makesSure_17 fl_X0_12 rfl k0 ga ?_
        refine r_iload_n dX0_makesSure_20 rfl ?_
        refine r_aload_n dX0_makesSure_21 rfl ?_
        refine r_getR dX0_makesSure_22 fl_X0_12 rfl k0 ga ?_
        refine r_iconst (v := nI 0) dX0_makesSure_25 (by decide) ?_
        refine r_iload_n dX0_makesSure_26 rfl ?_
        refine r_virtE (c_numN s 0 h (nmF (resK un Lt L H M lk (tvN so de (nI M) H rid) t).2.1 0 h) g4.1 g4.2.2.2.2.2.2.2.2.2.1 g4.2.2.2.2.1 (by decide) (by rw [f4]; exact pk_num hrg hM20 hH8 (by omega) (by omega) hh)) lk_X0_58 mc_X6_numberIn dX0_makesSure_27 g4.1 (by decide) rfl rfl (Nat.le_of_ble_eq_true rfl) ?_
        refine r_virtV (c_X6_bar s (nI h) (nI (nmF (resK un Lt L H M lk (tvN so de (nI M) H rid) t).2.1 0 h)) g4) lk_X0_62 mc_X6_bar dX0_makesSure_30 g4.1 (by decide) rfl rfl (Nat.le_of_ble_eq_true rfl) ?_
        have i2 : ∀ x, x ≠ s → (va_up I1 s (va_up (va_up (I1 s) 4 (nI h)) 5 (nI (nmF (resK un Lt L H M lk (tvN so de (nI M) H rid) t).2.1 0 h)))) x = I1 x := fun x x1 => am_up_n _ _ x1
        have i24 : (va_up I1 s (va_up (va_up (I1 s) 4 (nI h)) 5 (nI (nmF (resK un Lt L H M lk (tvN so de (nI M) H rid) t).2.1 0 h)))) s 4 = nI h := by rw [am_up_s, am_up_n _ _ (by decide), am_up_s]
        have i25 : (va_up I1 s (va_up (va_up (I1 s) 4 (nI h)) 5 (nI (nmF (resK un Lt L H M lk (tvN so de (nI M) H rid) t).2.1 0 h)))) s 5 = nI (nmF (resK un Lt L H M lk (tvN so de (nI M) H rid) t).2.1 0 h) := by rw [am_up_s, am_up_s]
        generalize (va_up I1 s (va_up (va_up (I1 s) 4 (nI h)) 5 (nI (nmF (resK un Lt L H M lk (tvN so de (nI M) H rid) t).2.1 0 h)))) = I2 at i2 i24 i25 ⊢
        have gc2 : clS I2 b l H M L lk rid un Lt so de := gc.cg (fun x x1 x2 => by rw [i2 x (by omega), f1 x (by omega) (by omega) (by omega) (by omega)]) (fun x x1 x2 => by rw [i2 x (by omega), f1 x (by omega) (by omega) (by omega) (by omega)])
        refine r_aload_n dX0_makesSure_33 rfl ?_
        refine r_getR dX0_makesSure_34 fl_X0_12 rfl k0 ga ?_
        refine r_iconst (v := nI 1) dX0_makesSure_37 (by decide) ?_
        refine r_virt (kc2 := 0) (ks2 := 0) (c_seekG s b l H M L (nI t) (nI 0) lk rid un Lt so de (fun j => if j < 8 then nI 0 else I (s + 1) j) (I (s + 2)) (fF I l (nI 0) L) 1 (resB un Lt L H M lk (tvN so de (nI M) H rid) t h (nmF (resK un Lt L H M lk (tvN so de (nI M) H rid) t).2.1 0 h)) g2 g3 g4 k5 k6 hH8 gc2 hM20 (by decide) (by decide) gpb gpl (by rw [i2 _ (by omega), f1 _ (by omega) (by omega) (by omega) (by omega)]; exact u1) (fun j hj => if_pos hj) (by rw [i2 _ (by omega), f1 _ (by omega) (by omega) (by omega) (by omega)]; exact u2) (fun i hi => by rw [i2 _ (by omega), i2 _ (by omega), f1 _ (by omega) (by omega) (by omega) (by omega), f1 _ (by omega) (by omega) (by omega) (by omega), uI _ (by omega) (by omega) (by omega), uI _ (by omega) (by omega) (by omega)]; rfl) (fun k hk hx => by rw [i2 _ (by omega), f1 _ (by omega) (by omega) (by omega) (by omega)]; exact hb3 k hk hx) (by rw [i24, i25]; exact resB_eq t h _ hH8 hM20)) lk_X0_42 mc_X6_seek dX0_makesSure_38 g4.1 (by decide) rfl rfl (Nat.le_of_ble_eq_true rfl) (by decide) (by decide) (fun _ _ _ _ _ _ h => nomatch h.1) ?_
        rintro v3 n3 kd3 I3 J3 P3 ⟨h00, rfl, rfl, rfl, e1, e2, e3, e4⟩
        cases h00
        simp only [Option.toList, List.nil_append, List.cons_append]
        have hfq : qFr s b I I3 J J3 P (suP P s b l) := ⟨fun x x1 y => by rw [e1 x (by omega) (by omega) (by omega) y, i2 x (by omega)]; exact (f1 x (by omega) (by omega) (by omega) y).trans (hf0.1 x x1 y), fun x x1 => (e3 x x1).trans ((f3 x x1).trans (hf0.2.1 x x1)), hf0.2.2.1, hf0.2.2.2⟩
        rw [show skv (resB un Lt L H M lk (tvN so de (nI M) H rid) t h (nmF (resK un Lt L H M lk (tvN so de (nI M) H rid) t).2.1 0 h)).2.2 (resB un Lt L H M lk (tvN so de (nI M) H rid) t h (nmF (resK un Lt L H M lk (tvN so de (nI M) H rid) t).2.1 0 h)).2.1 = nI (resB un Lt L H M lk (tvN so de (nI M) H rid) t h (nmF (resK un Lt L H M lk (tvN so de (nI M) H rid) t).2.1 0 h)).2.1.length from by unfold skv; rw [if_neg c3]]
        refine r_istore_n dX0_makesSure_41 (by decide) ?_
        refine r_iload_n dX0_makesSure_42 rfl ?_
        refine r_bipush (v := (-2)) dX0_makesSure_43 (by decide) ?_
        refine r_icmp_ne (tgt := 53) dX0_makesSure_45 (by decide) (fun _ => ?_) (fun hz => absurd hz (show ¬ _ from (nI_m2 (by omega))))
        refine r_iconst (v := nI 1) dX0_makesSure_53 (by decide) ?_
        refine r_iload_n dX0_makesSure_54 rfl ?_
        refine r_isub dX0_makesSure_55 ?_
        refine r_iret rfl dX0_makesSure_56 ?_
        exact ⟨by rw [show RPf un Lt L H M lk (tvN so de (nI M) H rid) h t = nI (resB un Lt L H M lk (tvN so de (nI M) H rid) t h (nmF (resK un Lt L H M lk (tvN so de (nI M) H rid) t).2.1 0 h)).2.1.length from by unfold RPf; rw [if_neg c1, if_neg c2, if_neg c3]]; unfold srI; rw [if_neg (nI_m2 (by omega))], rfl, rfl, hfq⟩

theorem RPf_3 {un : Bool} {Lt : Nat → Int32} {L H M : Nat} {lk : Nat → Nat} {tv : (Nat → Nat) → Nat → Bool} (h s : Nat) (hH : H ≤ 8) (hM : M ≤ 20) : RPf un Lt L H M lk tv h s = -2 ∨ RPf un Lt L H M lk tv h s = nI 0 ∨ RPf un Lt L H M lk tv h s = nI 1 := by
  unfold RPf
  split
  · exact Or.inl rfl
  split
  · exact Or.inr (Or.inr rfl)
  split
  · exact Or.inl rfl
  · have := resB_len (un := un) (Lt := Lt) (L := L) (H := H) (M := M) (lk := lk) (tv := tv) s h (nmF (resK un Lt L H M lk tv s).2.1 0 h) hH hM
    rcases (show (resB un Lt L H M lk tv s h (nmF (resK un Lt L H M lk tv s).2.1 0 h)).2.1.length = 0 ∨ (resB un Lt L H M lk tv s h (nmF (resK un Lt L H M lk tv s).2.1 0 h)).2.1.length = 1 by omega) with q | q <;> rw [q]
    · exact Or.inr (Or.inl rfl)
    · exact Or.inr (Or.inr rfl)
theorem dX0_smallestProof_0 : decode cX0_smallestProof 0 = .ok (.aload_n 1, 1) := by decide +kernel
theorem dX0_smallestProof_1 : decode cX0_smallestProof 1 = .ok (.aload_n 2, 1) := by decide +kernel
theorem dX0_smallestProof_2 : decode cX0_smallestProof 2 = .ok (.invokevirtual 32, 3) := by decide +kernel
theorem dX0_smallestProof_5 : decode cX0_smallestProof 5 = .ok (.istore 4, 2) := by decide +kernel
theorem dX0_smallestProof_7 : decode cX0_smallestProof 7 = .ok (.iconst 0, 1) := by decide +kernel
theorem dX0_smallestProof_8 : decode cX0_smallestProof 8 = .ok (.istore 5, 2) := by decide +kernel
theorem dX0_smallestProof_10 : decode cX0_smallestProof 10 = .ok (.iload 5, 2) := by decide +kernel
theorem dX0_smallestProof_12 : decode cX0_smallestProof 12 = .ok (.iload 4, 2) := by decide +kernel
theorem dX0_smallestProof_14 : decode cX0_smallestProof 14 = .ok (.invokestatic 46, 3) := by decide +kernel
theorem dX0_smallestProof_17 : decode cX0_smallestProof 17 = .ok (.if_icmp .gt 76, 3) := by decide +kernel
theorem dX0_smallestProof_20 : decode cX0_smallestProof 20 = .ok (.iconst 0, 1) := by decide +kernel
theorem dX0_smallestProof_21 : decode cX0_smallestProof 21 = .ok (.istore 6, 2) := by decide +kernel
theorem dX0_smallestProof_23 : decode cX0_smallestProof 23 = .ok (.iload 6, 2) := by decide +kernel
theorem dX0_smallestProof_25 : decode cX0_smallestProof 25 = .ok (.iload 4, 2) := by decide +kernel
theorem dX0_smallestProof_27 : decode cX0_smallestProof 27 = .ok (.if_icmp .gt 60, 3) := by decide +kernel
theorem dX0_smallestProof_30 : decode cX0_smallestProof 30 = .ok (.iload 6, 2) := by decide +kernel
theorem dX0_smallestProof_32 : decode cX0_smallestProof 32 = .ok (.iload 5, 2) := by decide +kernel
theorem dX0_smallestProof_34 : decode cX0_smallestProof 34 = .ok (.iload 4, 2) := by decide +kernel
theorem dX0_smallestProof_36 : decode cX0_smallestProof 36 = .ok (.invokestatic 51, 3) := by decide +kernel
theorem dX0_smallestProof_39 : decode cX0_smallestProof 39 = .ok (.ifCond .eq 42, 3) := by decide +kernel
theorem dX0_smallestProof_42 : decode cX0_smallestProof 42 = .ok (.aload_n 0, 1) := by decide +kernel
theorem dX0_smallestProof_43 : decode cX0_smallestProof 43 = .ok (.getfield 12, 3) := by decide +kernel
theorem dX0_smallestProof_46 : decode cX0_smallestProof 46 = .ok (.aload_n 1, 1) := by decide +kernel
theorem dX0_smallestProof_47 : decode cX0_smallestProof 47 = .ok (.aload_n 2, 1) := by decide +kernel
theorem dX0_smallestProof_48 : decode cX0_smallestProof 48 = .ok (.iload 6, 2) := by decide +kernel
theorem dX0_smallestProof_50 : decode cX0_smallestProof 50 = .ok (.iconst 0, 1) := by decide +kernel
theorem dX0_smallestProof_51 : decode cX0_smallestProof 51 = .ok (.invokevirtual 38, 3) := by decide +kernel
theorem dX0_smallestProof_54 : decode cX0_smallestProof 54 = .ok (.aload_n 0, 1) := by decide +kernel
theorem dX0_smallestProof_55 : decode cX0_smallestProof 55 = .ok (.iload_n 3, 1) := by decide +kernel
theorem dX0_smallestProof_56 : decode cX0_smallestProof 56 = .ok (.invokevirtual 55, 3) := by decide +kernel
theorem dX0_smallestProof_59 : decode cX0_smallestProof 59 = .ok (.istore 7, 2) := by decide +kernel
theorem dX0_smallestProof_61 : decode cX0_smallestProof 61 = .ok (.iload 7, 2) := by decide +kernel
theorem dX0_smallestProof_63 : decode cX0_smallestProof 63 = .ok (.ifCond .eq 18, 3) := by decide +kernel
theorem dX0_smallestProof_66 : decode cX0_smallestProof 66 = .ok (.iload 7, 2) := by decide +kernel
theorem dX0_smallestProof_68 : decode cX0_smallestProof 68 = .ok (.bipush (-2), 2) := by decide +kernel
theorem dX0_smallestProof_70 : decode cX0_smallestProof 70 = .ok (.if_icmp .ne 8, 3) := by decide +kernel
theorem dX0_smallestProof_73 : decode cX0_smallestProof 73 = .ok (.bipush (-2), 2) := by decide +kernel
theorem dX0_smallestProof_75 : decode cX0_smallestProof 75 = .ok (.goto 5, 3) := by decide +kernel
theorem dX0_smallestProof_78 : decode cX0_smallestProof 78 = .ok (.iload 6, 2) := by decide +kernel
theorem dX0_smallestProof_80 : decode cX0_smallestProof 80 = .ok (.ireturn, 1) := by decide +kernel
theorem dX0_smallestProof_81 : decode cX0_smallestProof 81 = .ok (.iinc 6 1, 3) := by decide +kernel
theorem dX0_smallestProof_84 : decode cX0_smallestProof 84 = .ok (.goto (-61), 3) := by decide +kernel
theorem dX0_smallestProof_87 : decode cX0_smallestProof 87 = .ok (.iinc 5 1, 3) := by decide +kernel
theorem dX0_smallestProof_90 : decode cX0_smallestProof 90 = .ok (.goto (-80), 3) := by decide +kernel
theorem dX0_smallestProof_93 : decode cX0_smallestProof 93 = .ok (.iconst (-1), 1) := by decide +kernel
theorem dX0_smallestProof_94 : decode cX0_smallestProof 94 = .ok (.ireturn, 1) := by decide +kernel

set_option maxHeartbeats 4000000 in
set_option maxRecDepth 100000 in
theorem wi_proof (a s b l H M L p h : Nat) (lk : Nat → Nat) (rid : Nat → List Nat) (un : Bool) (Lt so de : Nat → Int32) (z : Nat) {n : Nat} {kd : mK} (hH8 : H ≤ 8) (hM20 : M ≤ 20) (hp : p < 256) (hh : h < H) (hz : z ≤ 8) (post : am_Post) : ∀ (c t : Nat) (z7 : Option Value) (I : mI) (J : mJ) (P : mP), t + c = p + 1 → knH kd I P a s b l H M L lk rid un Lt so de → (∀ k, k < 8 → bt (nI p) k = true → bt (I b 3) k = true) → (∀ v I' J' P', kn1 (RPf un Lt L H M lk (tvN so de (nI M) H rid) h) (okK p z) c t = some v → qFr s b I I' J J' P P' → post (.inl (some (.int v))) n kd I' J' P') → (kn1 (RPf un Lt L H M lk (tvN so de (nI M) H rid) h) (okK p z) c t = none → ∀ z7 I' J' P', qFr s b I I' J J' P P' → Ru yX0_smallestProof.cls cX0_smallestProof 8 (some .int) yX0_smallestProof.name 8 (post) 0 0 87 [some (.ref a), some (.ref b), some (.ref l), some (.int (nI h)), some (.int (nI p)), some (.int (nI z)), some (.int (nI (p + 1))), z7] [] n kd I' J' P') → Ru yX0_smallestProof.cls cX0_smallestProof 8 (some .int) yX0_smallestProof.name 8 (post) 0 0 23 [some (.ref a), some (.ref b), some (.ref l), some (.int (nI h)), some (.int (nI p)), some (.int (nI z)), some (.int (nI t)), z7] [] n kd I J P := by
  intro c
  induction c with
  | zero =>
    intro t z7 I J P ht hk hpb h1 h2
    have ht1 : t = p + 1 := by omega
    subst ht1
    refine r_iload dX0_smallestProof_23 rfl ?_
    refine r_iload dX0_smallestProof_25 rfl ?_
    refine r_icmp_gt (tgt := 87) dX0_smallestProof_27 (by decide) (fun _ => ?_) (fun hz => absurd (show _ from (by rw [nI_ltI (by omega) (by omega)]; omega)) hz)
    exact h2 rfl z7 I J P qFr.rf
  | succ c ih =>
    intro t z7 I J P ht hk hpb h1 h2
    have hk' := hk
    obtain ⟨⟨k0, k1, k9⟩, k2, k3, k4, k5, k6, k7, k8⟩ := hk
    unfold kn1 at h1 h2
    by_cases c1 : okK p z t = true
    · have hsub : subK p t = true := by unfold okK at c1; rw [Bool.and_eq_true] at c1; exact c1.1
      rcases RPf_3 (un := un) (Lt := Lt) (L := L) (H := H) (M := M) (lk := lk) (tv := tvN so de (nI M) H rid) h t hH8 hM20 with c2 | c2 | c2
      · rw [if_pos ⟨c1, by rw [c2]; decide⟩, if_pos c2] at h1
        refine r_iload dX0_smallestProof_23 rfl ?_
        refine r_iload dX0_smallestProof_25 rfl ?_
        refine r_icmp_gt (tgt := 87) dX0_smallestProof_27 (by decide) (fun hz => absurd hz (show ¬ _ from (by rw [nI_ltI (by omega) (by omega)]; omega))) (fun _ => ?_)
        refine r_iload dX0_smallestProof_30 rfl ?_
        refine r_iload dX0_smallestProof_32 rfl ?_
        refine r_iload dX0_smallestProof_34 rfl ?_
        refine r_statE (c_X0_isSubset p z t (by omega) (by omega)) lk_X0_51 mc_X0_isSubset dX0_smallestProof_36 (by decide) rfl rfl (Nat.le_of_ble_eq_true rfl) ?_
        refine r_if_eq (tgt := 81) dX0_smallestProof_39 (by decide) (fun hz => absurd hz (show ¬ _ from (by rw [c1]; decide))) (fun _ => ?_)
        refine r_aload_n dX0_smallestProof_42 rfl ?_
        refine r_getR dX0_smallestProof_43 fl_X0_12 rfl k0 k1 ?_
        refine r_aload_n dX0_smallestProof_46 rfl ?_
        refine r_aload_n dX0_smallestProof_47 rfl ?_
        refine r_iload dX0_smallestProof_48 rfl ?_
        refine r_iconst (v := nI 0) dX0_smallestProof_50 (by decide) ?_
        refine r_virtV (c_setUpN s b l H M L (nI t) (nI 0) lk rid un Lt so de k2 k3 k4 k5 k6 k7 hH8 k8) lk_X0_38 mc_X6_setUp dX0_smallestProof_51 k4.1 (by decide) rfl rfl (Nat.le_of_ble_eq_true rfl) ?_
        refine r_aload_n dX0_smallestProof_54 rfl ?_
        refine r_iload_n dX0_smallestProof_55 rfl ?_
        refine r_virt (kc2 := 0) (ks2 := 0) (c_X0_makesSure a s b l H M L h t lk rid un Lt so de hH8 hM20 hh hk' (fun k hk hx => hpb k hk (sub_bit hsub k hk hx))) lk_X0_55 mc_X0_makesSure dX0_smallestProof_56 k0 (by decide) rfl rfl (Nat.le_of_ble_eq_true rfl) (by decide) (by decide) (fun _ _ _ _ _ _ h => nomatch h.1) ?_
        rintro v n' kd' I' J' P' ⟨h0, rfl, rfl, hfr2⟩
        cases h0
        simp only [Option.toList, List.cons_append, List.nil_append]
        rw [show srI ((RPf un Lt L H M lk (tvN so de (nI M) H rid) h) t) = -2 from by rw [c2]; rfl]
        refine r_istore dX0_smallestProof_59 (by decide) ?_
        refine r_iload dX0_smallestProof_61 rfl ?_
        refine r_if_eq (tgt := 81) dX0_smallestProof_63 (by decide) (fun hz => absurd hz (show ¬ _ from (by decide))) (fun _ => ?_)
        refine r_iload dX0_smallestProof_66 rfl ?_
        refine r_bipush (v := (-2)) dX0_smallestProof_68 (by decide) ?_
        refine r_icmp_ne (tgt := 78) dX0_smallestProof_70 (by decide) (fun hz => absurd (show _ from rfl) hz) (fun _ => ?_)
        refine r_bipush (v := (-2)) dX0_smallestProof_73 (by decide) ?_
        refine r_goto (tgt := 80) dX0_smallestProof_75 (by decide) ?_
        refine r_iret rfl dX0_smallestProof_80 ?_
        exact h1 _ _ _ _ rfl hfr2
      · rw [if_pos ⟨c1, by rw [c2]; decide⟩, if_neg (by rw [c2]; decide)] at h1
        refine r_iload dX0_smallestProof_23 rfl ?_
        refine r_iload dX0_smallestProof_25 rfl ?_
        refine r_icmp_gt (tgt := 87) dX0_smallestProof_27 (by decide) (fun hz => absurd hz (show ¬ _ from (by rw [nI_ltI (by omega) (by omega)]; omega))) (fun _ => ?_)
        refine r_iload dX0_smallestProof_30 rfl ?_
        refine r_iload dX0_smallestProof_32 rfl ?_
        refine r_iload dX0_smallestProof_34 rfl ?_
        refine r_statE (c_X0_isSubset p z t (by omega) (by omega)) lk_X0_51 mc_X0_isSubset dX0_smallestProof_36 (by decide) rfl rfl (Nat.le_of_ble_eq_true rfl) ?_
        refine r_if_eq (tgt := 81) dX0_smallestProof_39 (by decide) (fun hz => absurd hz (show ¬ _ from (by rw [c1]; decide))) (fun _ => ?_)
        refine r_aload_n dX0_smallestProof_42 rfl ?_
        refine r_getR dX0_smallestProof_43 fl_X0_12 rfl k0 k1 ?_
        refine r_aload_n dX0_smallestProof_46 rfl ?_
        refine r_aload_n dX0_smallestProof_47 rfl ?_
        refine r_iload dX0_smallestProof_48 rfl ?_
        refine r_iconst (v := nI 0) dX0_smallestProof_50 (by decide) ?_
        refine r_virtV (c_setUpN s b l H M L (nI t) (nI 0) lk rid un Lt so de k2 k3 k4 k5 k6 k7 hH8 k8) lk_X0_38 mc_X6_setUp dX0_smallestProof_51 k4.1 (by decide) rfl rfl (Nat.le_of_ble_eq_true rfl) ?_
        refine r_aload_n dX0_smallestProof_54 rfl ?_
        refine r_iload_n dX0_smallestProof_55 rfl ?_
        refine r_virt (kc2 := 0) (ks2 := 0) (c_X0_makesSure a s b l H M L h t lk rid un Lt so de hH8 hM20 hh hk' (fun k hk hx => hpb k hk (sub_bit hsub k hk hx))) lk_X0_55 mc_X0_makesSure dX0_smallestProof_56 k0 (by decide) rfl rfl (Nat.le_of_ble_eq_true rfl) (by decide) (by decide) (fun _ _ _ _ _ _ h => nomatch h.1) ?_
        rintro v n' kd' I' J' P' ⟨h0, rfl, rfl, hfr2⟩
        cases h0
        simp only [Option.toList, List.cons_append, List.nil_append]
        rw [show srI ((RPf un Lt L H M lk (tvN so de (nI M) H rid) h) t) = nI 1 from by rw [c2]; rfl]
        refine r_istore dX0_smallestProof_59 (by decide) ?_
        refine r_iload dX0_smallestProof_61 rfl ?_
        refine r_if_eq (tgt := 81) dX0_smallestProof_63 (by decide) (fun hz => absurd hz (show ¬ _ from (by decide))) (fun _ => ?_)
        refine r_iload dX0_smallestProof_66 rfl ?_
        refine r_bipush (v := (-2)) dX0_smallestProof_68 (by decide) ?_
        refine r_icmp_ne (tgt := 78) dX0_smallestProof_70 (by decide) (fun _ => ?_) (fun hz => absurd hz (show ¬ _ from (by decide)))
        refine r_iload dX0_smallestProof_78 rfl ?_
        refine r_iret rfl dX0_smallestProof_80 ?_
        exact h1 _ _ _ _ rfl hfr2
      · rw [if_neg (fun y => absurd y.2 (by rw [c2]; decide))] at h1 h2
        refine r_iload dX0_smallestProof_23 rfl ?_
        refine r_iload dX0_smallestProof_25 rfl ?_
        refine r_icmp_gt (tgt := 87) dX0_smallestProof_27 (by decide) (fun hz => absurd hz (show ¬ _ from (by rw [nI_ltI (by omega) (by omega)]; omega))) (fun _ => ?_)
        refine r_iload dX0_smallestProof_30 rfl ?_
        refine r_iload dX0_smallestProof_32 rfl ?_
        refine r_iload dX0_smallestProof_34 rfl ?_
        refine r_statE (c_X0_isSubset p z t (by omega) (by omega)) lk_X0_51 mc_X0_isSubset dX0_smallestProof_36 (by decide) rfl rfl (Nat.le_of_ble_eq_true rfl) ?_
        refine r_if_eq (tgt := 81) dX0_smallestProof_39 (by decide) (fun hz => absurd hz (show ¬ _ from (by rw [c1]; decide))) (fun _ => ?_)
        refine r_aload_n dX0_smallestProof_42 rfl ?_
        refine r_getR dX0_smallestProof_43 fl_X0_12 rfl k0 k1 ?_
        refine r_aload_n dX0_smallestProof_46 rfl ?_
        refine r_aload_n dX0_smallestProof_47 rfl ?_
        refine r_iload dX0_smallestProof_48 rfl ?_
        refine r_iconst (v := nI 0) dX0_smallestProof_50 (by decide) ?_
        refine r_virtV (c_setUpN s b l H M L (nI t) (nI 0) lk rid un Lt so de k2 k3 k4 k5 k6 k7 hH8 k8) lk_X0_38 mc_X6_setUp dX0_smallestProof_51 k4.1 (by decide) rfl rfl (Nat.le_of_ble_eq_true rfl) ?_
        refine r_aload_n dX0_smallestProof_54 rfl ?_
        refine r_iload_n dX0_smallestProof_55 rfl ?_
        refine r_virt (kc2 := 0) (ks2 := 0) (c_X0_makesSure a s b l H M L h t lk rid un Lt so de hH8 hM20 hh hk' (fun k hk hx => hpb k hk (sub_bit hsub k hk hx))) lk_X0_55 mc_X0_makesSure dX0_smallestProof_56 k0 (by decide) rfl rfl (Nat.le_of_ble_eq_true rfl) (by decide) (by decide) (fun _ _ _ _ _ _ h => nomatch h.1) ?_
        rintro v n' kd' I' J' P' ⟨h0, rfl, rfl, hfr2⟩
        cases h0
        simp only [Option.toList, List.cons_append, List.nil_append]
        rw [show srI ((RPf un Lt L H M lk (tvN so de (nI M) H rid) h) t) = nI 0 from by rw [c2]; rfl]
        refine r_istore dX0_smallestProof_59 (by decide) ?_
        refine r_iload dX0_smallestProof_61 rfl ?_
        refine r_if_eq (tgt := 81) dX0_smallestProof_63 (by decide) (fun _ => ?_) (fun hz => absurd (show _ from rfl) hz)
        refine r_iinc (v := nI (t + 1)) dX0_smallestProof_81 rfl (nI_inc t) ?_
        refine r_goto (tgt := 23) dX0_smallestProof_84 (by decide) ?_
        exact ih (t + 1) _ I' J' P' (by omega) (hk'.fr hfr2) (fun k hk hx => by rw [hfr2.1 b (by omega) (by omega)]; exact hpb k hk hx) (fun v I2 J2 P2 hv hf => h1 v I2 J2 P2 hv (hfr2.tr hf)) (fun hv z7 I2 J2 P2 hf => h2 hv z7 I2 J2 P2 (hfr2.tr hf))
    · rw [if_neg (fun y => c1 y.1)] at h1 h2
      have c1' : okK p z t = false := by simpa using c1
      refine r_iload dX0_smallestProof_23 rfl ?_
      refine r_iload dX0_smallestProof_25 rfl ?_
      refine r_icmp_gt (tgt := 87) dX0_smallestProof_27 (by decide) (fun hz => absurd hz (show ¬ _ from (by rw [nI_ltI (by omega) (by omega)]; omega))) (fun _ => ?_)
      refine r_iload dX0_smallestProof_30 rfl ?_
      refine r_iload dX0_smallestProof_32 rfl ?_
      refine r_iload dX0_smallestProof_34 rfl ?_
      refine r_statE (c_X0_isSubset p z t (by omega) (by omega)) lk_X0_51 mc_X0_isSubset dX0_smallestProof_36 (by decide) rfl rfl (Nat.le_of_ble_eq_true rfl) ?_
      refine r_if_eq (tgt := 81) dX0_smallestProof_39 (by decide) (fun _ => ?_) (fun hz => absurd (show _ from (by rw [c1']; rfl)) hz)
      refine r_iinc (v := nI (t + 1)) dX0_smallestProof_81 rfl (nI_inc t) ?_
      refine r_goto (tgt := 23) dX0_smallestProof_84 (by decide) ?_
      exact ih (t + 1) z7 I J P (by omega) hk' hpb h1 h2

set_option maxHeartbeats 4000000 in
set_option maxRecDepth 100000 in
theorem wo_proof (a s b l H M L p h : Nat) (lk : Nat → Nat) (rid : Nat → List Nat) (un : Bool) (Lt so de : Nat → Int32) {n : Nat} {kd : mK} (hH8 : H ≤ 8) (hM20 : M ≤ 20) (hp : p < 256) (hh : h < H) : ∀ (c z : Nat) (z6 z7 : Option Value) (I : mI) (J : mJ) (P : mP), z + c = pc8 p + 1 → knH kd I P a s b l H M L lk rid un Lt so de → (∀ k, k < 8 → bt (nI p) k = true → bt (I b 3) k = true) → Ru yX0_smallestProof.cls cX0_smallestProof 8 (some .int) yX0_smallestProof.name 8 (fun y n' kd' I' J' P' => y = .inl (some (.int (kn2 (RPf un Lt L H M lk (tvN so de (nI M) H rid) h) p (p + 1) c z))) ∧ n' = n ∧ kd' = kd ∧ qFr s b I I' J J' P P') 0 0 10 [some (.ref a), some (.ref b), some (.ref l), some (.int (nI h)), some (.int (nI p)), some (.int (nI z)), z6, z7] [] n kd I J P := by
  have h8 := pc8_le p hp
  intro c
  induction c with
  | zero =>
    intro z z6 z7 I J P hz hk hpb
    unfold kn2
    refine r_iload dX0_smallestProof_10 rfl ?_
    refine r_iload dX0_smallestProof_12 rfl ?_
    refine r_statE (c_J6_bitCount_0f7a4 (nI p)) lk_X0_46 mc_J6_bitCount_0f7a4 dX0_smallestProof_14 (by decide) rfl rfl (Nat.le_of_ble_eq_true rfl) ?_
    rw [bc_pc p hp]
    refine r_icmp_gt (tgt := 93) dX0_smallestProof_17 (by decide) (fun _ => ?_) (fun hz => absurd (show _ from (by rw [nI_ltI (by omega) (by omega)]; omega)) hz)
    refine r_iconst (v := (-1)) dX0_smallestProof_93 (by decide) ?_
    refine r_iret rfl dX0_smallestProof_94 ?_
    exact ⟨rfl, rfl, rfl, qFr.rf⟩
  | succ c ih =>
    intro z z6 z7 I J P hz hk hpb
    unfold kn2
    refine r_iload dX0_smallestProof_10 rfl ?_
    refine r_iload dX0_smallestProof_12 rfl ?_
    refine r_statE (c_J6_bitCount_0f7a4 (nI p)) lk_X0_46 mc_J6_bitCount_0f7a4 dX0_smallestProof_14 (by decide) rfl rfl (Nat.le_of_ble_eq_true rfl) ?_
    rw [bc_pc p hp]
    refine r_icmp_gt (tgt := 93) dX0_smallestProof_17 (by decide) (fun hz => absurd hz (show ¬ _ from (by rw [nI_ltI (by omega) (by omega)]; omega))) (fun _ => ?_)
    refine r_iconst (v := nI 0) dX0_smallestProof_20 (by decide) ?_
    refine r_istore dX0_smallestProof_21 (by decide) ?_
    refine wi_proof a s b l H M L p h lk rid un Lt so de z hH8 hM20 hp hh (by omega) _ (p + 1) 0 z7 I J P (by omega) hk hpb (fun v I' J' P' hv hf => ?_) (fun hv z7 I' J' P' hf => ?_)
    · rw [hv]
      exact ⟨rfl, rfl, rfl, hf⟩
    · rw [hv]
      have hn := ih (z + 1) (some (.int (nI (p + 1)))) z7 I' J' P' (by omega) (hk.fr hf) (fun k hk2 hx => by rw [hf.1 b (by have := hk.2.2.2.2.1; have := hk.2.2.2.2.2.1; omega) (by omega)]; exact hpb k hk2 hx)
      refine r_iinc (v := nI (z + 1)) dX0_smallestProof_87 rfl (nI_inc z) ?_
      refine r_goto (tgt := 10) dX0_smallestProof_90 (by decide) ?_
      exact RuZ.mono hn (fun y n' kd' I2 J2 P2 h => ⟨h.1, h.2.1, h.2.2.1, hf.tr h.2.2.2⟩)

set_option maxHeartbeats 4000000 in
set_option maxRecDepth 100000 in
theorem c_X0_smallestProof (a s b l H M L p h : Nat) (lk : Nat → Nat) (rid : Nat → List Nat) (un : Bool) (Lt so de : Nat → Int32) {n : Nat} {kd : mK} {I : mI} {J : mJ} {P : mP} (hH8 : H ≤ 8) (hM20 : M ≤ 20) (hp : p < 256) (hh : h < H) (hk : knH kd I P a s b l H M L lk rid un Lt so de) (hsp : I b 3 &&& (I l 2 ^^^ (-1)) = nI p) : Ct yX0_smallestProof cX0_smallestProof 8 (some .int) 8 0 0 [.ref a, .ref b, .ref l, .int (nI h)] n kd I J P (fun y n' kd' I' J' P' => y = .inl (some (.int (kn2 (RPf un Lt L H M lk (tvN so de (nI M) H rid) h) p (p + 1) (pc8 p + 1) 0))) ∧ n' = n ∧ kd' = kd ∧ qFr s b I I' J J' P P') := by
  have hk' := hk
  obtain ⟨⟨k0, k1, k9⟩, k2, k3, k4, k5, k6, k7, k8⟩ := hk
  refine ct_of 4 (by decide +kernel) (Nat.le_of_ble_eq_true rfl) rfl ?_
  refine r_aload_n dX0_smallestProof_0 rfl ?_
  refine r_aload_n dX0_smallestProof_1 rfl ?_
  refine r_virtE (c_X7_speaking b l k2 k3) lk_X0_32 mc_X7_speaking dX0_smallestProof_2 k2.1 (by decide) rfl rfl (Nat.le_of_ble_eq_true rfl) ?_
  rw [hsp]
  refine r_istore dX0_smallestProof_5 (by decide) ?_
  refine r_iconst (v := nI 0) dX0_smallestProof_7 (by decide) ?_
  refine r_istore dX0_smallestProof_8 (by decide) ?_
  exact wo_proof a s b l H M L p h lk rid un Lt so de hH8 hM20 hp hh (pc8 p + 1) 0 none none I J P (by omega) hk' (fun k hk hx => by rw [← hsp, b_and, Bool.and_eq_true] at hx; exact hx.1)

def prO (H M : Nat) (un : Bool) (cs : Nat → List Nat) (e : Lf) (h : Nat) : Int32 := kn2 (RPf un (LtO e.2.2.2.2) e.2.2.2.2.length H M (lkO cs H) (tvO H M cs e) h) (spB H cs e) 256 9 0
theorem TN_w0 {un : Bool} {Lt Lt' so de so' de' : Nat → Int32} {L : Nat} {r mo : Int32} {H : Nat} {lk : Nat → Nat} {cs : Nat → List Nat} (h1 : ∀ k, k < H → so k = so' k ∧ de k = de' k) : TN un Lt L r (nI 0) lk (tvN so de mo H cs) H = TN un Lt' L r (nI 0) lk (tvN so' de' mo H cs) H := by
  funext N h
  unfold TN
  rw [rlR_cg H 0 (fun j _ hj => tv_cg N (h1 j (by omega)).1 (h1 j (by omega)).2), decide_eq_true (show nI 0 = 0 from rfl)]
  rfl
theorem RP_eq {un : Bool} {Lt Lt' so de so' de' : Nat → Int32} {L H M : Nat} {lk : Nat → Nat} {cs : Nat → List Nat} (h1 : ∀ k, k < H → so k = so' k ∧ de k = de' k) (h : Nat) : RPf un Lt L H M lk (tvN so de (nI M) H cs) h = RPf un Lt' L H M lk (tvN so' de' (nI M) H cs) h := by
  funext s
  unfold RPf resB resK
  rw [TN_w0 (Lt := Lt) (Lt' := Lt') (r := nI s) h1]

set_option maxHeartbeats 4000000 in
set_option maxRecDepth 100000 in
theorem k_proof (o b s f l : Nat) (h : Nat) {t : Nat} {T : Nat → Nat} {fp : Int32} {rr : Nat → Int32} {H M : Nat} {un : Bool} {cs : Nat → List Nat} {tx : Nat → List Int32} {e : Lf} {im : Option Lf} {wk : Option (List Nat)} {n : Nat} {kd : mK} {I : mI} {J : mJ} {P : mP} (hC : CR o b s f l n kd I J P t T fp rr H M un cs tx e im wk) (hz : okZ t T H M cs e) (hh : h < H) : Ct yX9_proof cX9_proof 2 (some .int) 9 1 6 [.ref o, .int (nI h)] n kd I J P (pK o n kd I J P (.inl (some (.int (prO H M un cs e h)))) (CX o t T fp rr H M un cs tx e im wk)) := by
  have hC0 := hC
  have hz0 := hz
  obtain ⟨hX, hsc, hT, hSt, hLf, hIm, hWk, hQc, hPc⟩ := hC
  obtain ⟨okt, oks, okl⟩ := hz
  have hS := hX.S
  have hL := hX.L
  have hat := hX.at
  have hH8 : H ≤ 8 := oks.2.1
  have hM20 : 2 ≤ M ∧ M ≤ 20 := oks.1
  have hH : I b 0 = nI H := hSt.1.1
  have hMo : I b 1 = nI M := hSt.2.1
  obtain ⟨⟨x0, x1, x2⟩, -, ⟨-, -, hLk⟩, ⟨hQ, hA, hG, hW, hRd, hD, hPg⟩, ⟨p0, p3, p8, p10, p12, p13, p14, p15, p16, p17⟩, ⟨p4, p5, p6, p7⟩, -, -, -⟩ := id hX
  refine ct_of 0 (by decide +kernel) (Nat.le_of_ble_eq_true rfl) rfl ?_
  refine r_aload_n dX9_proof_0 rfl ?_
  refine r_iload_n dX9_proof_1 rfl ?_
  refine r_virtV (m0_House o b (nI h) x0 p4 hS.1 (by rw [hH]; exact (isH_of hh (by omega)))) lk_X9_142 mc_X9_mustBeHouse dX9_proof_2 x0 (by decide) rfl rfl (Nat.le_of_ble_eq_true rfl) ?_
  refine r_aload_n dX9_proof_5 rfl ?_
  refine r_getR dX9_proof_6 fl_X9_64 rfl x0 p12 ?_
  refine r_aload_n dX9_proof_9 rfl ?_
  refine r_getR dX9_proof_10 fl_X9_27 rfl (by assumption) (by assumption) ?_
  refine r_aload_n dX9_proof_13 rfl ?_
  refine r_getR dX9_proof_14 fl_X9_37 rfl (by assumption) (by assumption) ?_
  refine r_iload_n dX9_proof_17 rfl ?_
  refine r_virt (kc2 := 0) (ks2 := 0) (c_X0_smallestProof (o + 47) (o + 48) b f H M e.2.2.2.2.length (spB H cs e) h (lkO cs H) cs un (LtO e.2.2.2.2) (I (f + 1)) (I (f + 2)) hH8 hM20.2 (spB_lt hH8) hh (hC0.kn hz0) (sp_c hSt hLf)) lk_X9_280 mc_X0_smallestProof dX9_proof_18 hA.1 (by decide) rfl rfl (Nat.le_of_ble_eq_true rfl) (by decide) (by decide) (fun _ _ _ _ _ _ h => nomatch h.1) ?_
  rintro v1 n1 kd1 I1 J1 P1 ⟨h00, rfl, rfl, hqf⟩
  cases h00
  simp only [Option.toList, List.nil_append, List.cons_append]
  rw [RP_eq (Lt' := LtO e.2.2.2.2) (so' := fun h => nI (e.1 h)) (de' := fun h => nI (e.2.1 h)) (fun k hk => ⟨(hLf.1 k hk).1, (hLf.1 k hk).2⟩), kn_same _ (spB_lt hH8)]
  refine r_iret rfl dX9_proof_21 ?_
  exact pK.qf (Or.inl rfl) hqf hC0


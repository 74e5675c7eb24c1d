/-! KNOTS: the reference; one answer for both -/
theorem dX10_bits_0 : decode cX10_bits 0 = .ok (.iconst 0, 1) := by decide +kernel
theorem dX10_bits_1 : decode cX10_bits 1 = .ok (.istore_n 1, 1) := by decide +kernel
theorem dX10_bits_2 : decode cX10_bits 2 = .ok (.iconst 0, 1) := by decide +kernel
theorem dX10_bits_3 : decode cX10_bits 3 = .ok (.istore_n 2, 1) := by decide +kernel
theorem dX10_bits_4 : decode cX10_bits 4 = .ok (.iload_n 2, 1) := by decide +kernel
theorem dX10_bits_5 : decode cX10_bits 5 = .ok (.bipush 21, 2) := by decide +kernel
theorem dX10_bits_7 : decode cX10_bits 7 = .ok (.if_icmp .ge 17, 3) := by decide +kernel
theorem dX10_bits_10 : decode cX10_bits 10 = .ok (.iload_n 1, 1) := by decide +kernel
theorem dX10_bits_11 : decode cX10_bits 11 = .ok (.iload_n 0, 1) := by decide +kernel
theorem dX10_bits_12 : decode cX10_bits 12 = .ok (.iload_n 2, 1) := by decide +kernel
theorem dX10_bits_13 : decode cX10_bits 13 = .ok (.ishr, 1) := by decide +kernel
theorem dX10_bits_14 : decode cX10_bits 14 = .ok (.iconst 1, 1) := by decide +kernel
theorem dX10_bits_15 : decode cX10_bits 15 = .ok (.iand, 1) := by decide +kernel
theorem dX10_bits_16 : decode cX10_bits 16 = .ok (.iadd, 1) := by decide +kernel
theorem dX10_bits_17 : decode cX10_bits 17 = .ok (.istore_n 1, 1) := by decide +kernel
theorem dX10_bits_18 : decode cX10_bits 18 = .ok (.iinc 2 1, 3) := by decide +kernel
theorem dX10_bits_21 : decode cX10_bits 21 = .ok (.goto (-17), 3) := by decide +kernel
theorem dX10_bits_24 : decode cX10_bits 24 = .ok (.iload_n 1, 1) := by decide +kernel
theorem dX10_bits_25 : decode cX10_bits 25 = .ok (.ireturn, 1) := by decide +kernel

set_option maxHeartbeats 4000000 in
set_option maxRecDepth 100000 in
theorem w_X10_bits (v : Int32) {n : Nat} {kd : mK} {I : mI} {J : mJ} {P : mP} : ∀ (k i : Nat), i + k = 21 → Ru yX10_bits.cls cX10_bits 3 (some .int) yX10_bits.name 1 (am_is (some (.int (nI (pcF v 21)))) n kd I J P) 0 0 4 [some (.int v), some (.int (nI (pcF v i))), some (.int (nI i))] [] n kd I J P := by
  intro k
  induction k with
  | zero =>
    intro i hi
    have hi : i = 21 := by omega
    subst hi
    refine r_iload_n dX10_bits_4 rfl ?_
    refine r_bipush (v := nI 21) dX10_bits_5 (by decide) ?_
    refine r_icmp_ge (tgt := 24) dX10_bits_7 (by decide) (fun _ => ?_) (fun hz => absurd (show _ from (by rw [nI_leI (by omega) (by omega)]; omega)) hz)
    refine r_iload_n dX10_bits_24 rfl ?_
    refine r_iret rfl dX10_bits_25 ?_
    exact am_is.mk
  | succ k ih =>
    intro i hi
    have hn := ih (i + 1) (by omega)
    unfold pcF at hn
    refine r_iload_n dX10_bits_4 rfl ?_
    refine r_bipush (v := nI 21) dX10_bits_5 (by decide) ?_
    refine r_icmp_ge (tgt := 24) dX10_bits_7 (by decide) (fun hz => absurd hz (show ¬ _ from (by rw [nI_leI (by omega) (by omega)]; omega))) (fun _ => ?_)
    refine r_iload_n dX10_bits_10 rfl ?_
    refine r_iload_n dX10_bits_11 rfl ?_
    refine r_iload_n dX10_bits_12 rfl ?_
    refine r_ishr dX10_bits_13 ?_
    refine r_iconst (v := nI 1) dX10_bits_14 (by decide) ?_
    refine r_iand dX10_bits_15 ?_
    rw [b_ask v (show i < 32 by omega)]
    refine r_iadd dX10_bits_16 ?_
    rw [show nI (pcF v i) + (if bt v i = true then nI 1 else nI 0) = nI (pcF v i + (if bt v i = true then 1 else 0)) by split <;> exact nI_add _ _]
    refine r_istore_n dX10_bits_17 (by decide) ?_
    refine r_iinc (v := nI (i + 1)) dX10_bits_18 rfl (nI_inc i) ?_
    refine r_goto (tgt := 4) dX10_bits_21 (by decide) ?_
    exact hn

set_option maxHeartbeats 4000000 in
set_option maxRecDepth 100000 in
theorem c_X10_bits (v : Int32) {n : Nat} {kd : mK} {I : mI} {J : mJ} {P : mP} : Ct yX10_bits cX10_bits 3 (some .int) 1 0 0 [.int v] n kd I J P (am_is (some (.int (nI (pcF v 21)))) n kd I J P) := by
  refine ct_of 2 (by decide +kernel) (Nat.le_of_ble_eq_true rfl) rfl ?_
  refine r_iconst (v := nI 0) dX10_bits_0 (by decide) ?_
  refine r_istore_n dX10_bits_1 (by decide) ?_
  refine r_iconst (v := nI 0) dX10_bits_2 (by decide) ?_
  refine r_istore_n dX10_bits_3 (by decide) ?_
  exact w_X10_bits v 21 0 (by omega)

/-- a street in the reference's memory, as searches need it; rb: which houses have a riddle -/
def rfS (kd : mK) (P : mP) (I : mI) (m H M L : Nat) (lk : Nat → Nat) (rid : Nat → List Nat) (un : Bool) (Lt so de : Nat → Int32) (rb : Nat → Bool) : Prop := kM kd P m ∧ I m 1 = nI H ∧ I m 2 = nI M ∧ (!decide (I m 3 = 0)) = un ∧ (I m 47 = nI L ∧ L ≤ 10) ∧ I (m + 24) = Lt ∧ I m 54 = -1 ∧ I m 58 = -1 ∧ I (m + 1) = so ∧ I (m + 2) = de ∧ lkOkR I m H lk ∧ (∀ k, k < H → rb k = true → okd (rid k) 0 ∧ ∃ a, I (m + 5) k = nI a ∧ rcs (I (m + 7)) (rid k) a) ∧ (∀ k, k < H → ∀ t, t < H → 10000 + t ∈ rid k → (lk k).testBit t = true)
def rFr (m : Nat) (I I' : mI) : Prop := (∀ a, a ≠ m → a ≠ m + 25 → a ≠ m + 26 → a ≠ m + 27 → I' a = I a) ∧ (∀ j, j ≠ 52 → j ≠ 53 → I' m j = I m j)
theorem rFr.rf {m : Nat} {I : mI} : rFr m I I := ⟨fun _ _ _ _ _ => rfl, fun _ _ _ => rfl⟩
theorem rFr.tr {m : Nat} {I I1 I2 : mI} (h : rFr m I I1) (g : rFr m I1 I2) : rFr m I I2 := ⟨fun a x y z u => (g.1 a x y z u).trans (h.1 a x y z u), fun j x y => (g.2 j x y).trans (h.2 j x y)⟩
theorem rfS.fr {kd : mK} {P : mP} {I I' : mI} {m H M L : Nat} {lk : Nat → Nat} {rid : Nat → List Nat} {un : Bool} {Lt so de : Nat → Int32} {rb : Nat → Bool} (hf : rFr m I I') (h : rfS kd P I m H M L lk rid un Lt so de rb) : rfS kd P I' m H M L lk rid un Lt so de rb := by
  obtain ⟨h1, h2, h3, h4, h5, h6, h7, h8, h9, h10, h11, h12, h13⟩ := h
  have e : ∀ i, 0 < i → i < 25 → I' (m + i) = I (m + i) := fun i x y => hf.1 (m + i) (by omega) (by omega) (by omega) (by omega)
  refine ⟨h1, by rw [hf.2 1 (by decide) (by decide)]; exact h2, by rw [hf.2 2 (by decide) (by decide)]; exact h3, by rw [hf.2 3 (by decide) (by decide)]; exact h4, by rw [hf.2 47 (by decide) (by decide)]; exact h5, by rw [e 24 (by decide) (by decide)]; exact h6, by rw [hf.2 54 (by decide) (by decide)]; exact h7, by rw [hf.2 58 (by decide) (by decide)]; exact h8, by rw [e 1 (by decide) (by decide)]; exact h9, by rw [e 2 (by decide) (by decide)]; exact h10, ?_, ?_, h13⟩
  · unfold lkOkR at *
    rw [e 6 (by decide) (by decide), hf.2 1 (by decide) (by decide)]
    exact h11
  · rw [e 5 (by decide) (by decide), e 7 (by decide) (by decide)]
    exact h12
def xkG (n : Nat) (kd : mK) (I : mI) (J : mJ) (P : mP) (m H : Nat) (res : Nat × List (Nat → Nat) × Bool) : am_Post := fun z n' kd' I' J' P' => z = .inl (some (.int (bz (!res.2.2 && decide (res.2.1.length ≤ 1000))))) ∧ n' = n ∧ kd' = kd ∧ J' = J ∧ P' = P ∧ rFr m I I' ∧ I' m 52 = nI (cutF res.2.1).length ∧ I' m 53 = nI res.1 ∧ I' (m + 27) = NR H (I (m + 27)) (cutF res.2.1)
set_option maxHeartbeats 4000000 in
set_option maxRecDepth 100000 in
theorem c_seeksN (m H M L : Nat) (lk : Nat → Nat) (rid : Nat → List Nat) (un : Bool) (Lt so de : Nat → Int32) (rb : Nat → Bool) (r w : Int32) (E : Nat) (res : Nat × List (Nat → Nat) × Bool) {n : Nat} {kd : mK} {I : mI} {J : mJ} {P : mP} (hR : rfS kd P I m H M L lk rid un Lt so de rb) (hH8 : H ≤ 8) (hM20 : M ≤ 20) (hE : E ≤ 1001) (hE1 : 1 ≤ E) (hr : ∀ k, k < H → bt r k = true → rb k = true) (hsk : skTop (TN un Lt L r w lk (tvN so de (nI M) H rid) H) noB H M E = some res) : Ct yX10_seeks cX10_seeks 6 (some .boolean) 5 0 0 [.ref m, .int r, .int w, .int (nI E)] n kd I J P (xkG n kd I J P m H res) := by
  obtain ⟨h1, h2, h3, h4, h5, h6, h7, h8, h9, h10, h11, h12, h13⟩ := hR
  have hsk' : skTop (TR I m H L r w lk (tvN so de (nI M) H rid)) (barS (I m 58) (I m 59)) H M E = some res := by
    rw [skTop_bar hH8 h8, ← hsk]
    congr 1
    funext N h
    rw [TR_TN, h4, h6]
  have hT := hT_ref (lk := lk) (rid := rid) (n := n) (J := J) h1 hH8 h2 r (fun k hk => by rw [h7]; exact nI_m1 (by omega)) (fun k hk hb => h12 k hk (hr k hk hb)) h13
  rw [h9, h10, h3] at hT
  refine Ct.mono (c_X10_seeks m H M L E r w lk (tvN so de (nI M) H rid) res h1 hH8 h2 h3 hM20 h5.1 h5.2 hE h11 (fun h h8' hx => absurd (hx.trans h8) (nI_m1 (by omega))) (fun N k h Pl R Nb q a b c d e => hT N k h Pl R Nb q a b c d e) hE1 hsk') ?_
  rintro z n' kd' I' J' P' ⟨Pl, R, rfl, rfl, rfl, rfl, rfl, rfl⟩
  refine ⟨rfl, rfl, rfl, rfl, rfl, ⟨fun a x y z u => ?_, fun j x y => ?_⟩, ?_, ?_, xM_27⟩
  · unfold xM; rw [am_up_n _ _ x, am_up_n _ _ u, am_up_n _ _ y, am_up_n _ _ z]
  · rw [xM_m, qRn _ _ _ x y]
  · rw [xM_m, qR52]
  · rw [xM_m, qR53]

theorem dX10_smallestKnot_0 : decode cX10_smallestKnot 0 = .ok (.aload_n 0, 1) := by decide +kernel
theorem dX10_smallestKnot_1 : decode cX10_smallestKnot 1 = .ok (.invokevirtual 429, 3) := by decide +kernel
theorem dX10_smallestKnot_4 : decode cX10_smallestKnot 4 = .ok (.istore_n 1, 1) := by decide +kernel
theorem dX10_smallestKnot_5 : decode cX10_smallestKnot 5 = .ok (.iconst 0, 1) := by decide +kernel
theorem dX10_smallestKnot_6 : decode cX10_smallestKnot 6 = .ok (.istore_n 2, 1) := by decide +kernel
theorem dX10_smallestKnot_7 : decode cX10_smallestKnot 7 = .ok (.iload_n 2, 1) := by decide +kernel
theorem dX10_smallestKnot_8 : decode cX10_smallestKnot 8 = .ok (.bipush 8, 2) := by decide +kernel
theorem dX10_smallestKnot_10 : decode cX10_smallestKnot 10 = .ok (.if_icmp .gt 65, 3) := by decide +kernel
theorem dX10_smallestKnot_13 : decode cX10_smallestKnot 13 = .ok (.iconst 0, 1) := by decide +kernel
theorem dX10_smallestKnot_14 : decode cX10_smallestKnot 14 = .ok (.istore_n 3, 1) := by decide +kernel
theorem dX10_smallestKnot_15 : decode cX10_smallestKnot 15 = .ok (.iload_n 3, 1) := by decide +kernel
theorem dX10_smallestKnot_16 : decode cX10_smallestKnot 16 = .ok (.sipush 256, 3) := by decide +kernel
theorem dX10_smallestKnot_19 : decode cX10_smallestKnot 19 = .ok (.if_icmp .ge 50, 3) := by decide +kernel
theorem dX10_smallestKnot_22 : decode cX10_smallestKnot 22 = .ok (.iload_n 3, 1) := by decide +kernel
theorem dX10_smallestKnot_23 : decode cX10_smallestKnot 23 = .ok (.iload_n 1, 1) := by decide +kernel
theorem dX10_smallestKnot_24 : decode cX10_smallestKnot 24 = .ok (.iconst (-1), 1) := by decide +kernel
theorem dX10_smallestKnot_25 : decode cX10_smallestKnot 25 = .ok (.ixor, 1) := by decide +kernel
theorem dX10_smallestKnot_26 : decode cX10_smallestKnot 26 = .ok (.iand, 1) := by decide +kernel
theorem dX10_smallestKnot_27 : decode cX10_smallestKnot 27 = .ok (.ifCond .ne 36, 3) := by decide +kernel
theorem dX10_smallestKnot_30 : decode cX10_smallestKnot 30 = .ok (.iload_n 3, 1) := by decide +kernel
theorem dX10_smallestKnot_31 : decode cX10_smallestKnot 31 = .ok (.invokestatic 448, 3) := by decide +kernel
theorem dX10_smallestKnot_34 : decode cX10_smallestKnot 34 = .ok (.iload_n 2, 1) := by decide +kernel
theorem dX10_smallestKnot_35 : decode cX10_smallestKnot 35 = .ok (.if_icmp .eq 6, 3) := by decide +kernel
theorem dX10_smallestKnot_38 : decode cX10_smallestKnot 38 = .ok (.goto 25, 3) := by decide +kernel
theorem dX10_smallestKnot_41 : decode cX10_smallestKnot 41 = .ok (.aload_n 0, 1) := by decide +kernel
theorem dX10_smallestKnot_42 : decode cX10_smallestKnot 42 = .ok (.iload_n 3, 1) := by decide +kernel
theorem dX10_smallestKnot_43 : decode cX10_smallestKnot 43 = .ok (.iconst 0, 1) := by decide +kernel
theorem dX10_smallestKnot_44 : decode cX10_smallestKnot 44 = .ok (.iconst 1, 1) := by decide +kernel
theorem dX10_smallestKnot_45 : decode cX10_smallestKnot 45 = .ok (.invokevirtual 432, 3) := by decide +kernel
theorem dX10_smallestKnot_48 : decode cX10_smallestKnot 48 = .ok (.ifCond .ne 6, 3) := by decide +kernel
theorem dX10_smallestKnot_51 : decode cX10_smallestKnot 51 = .ok (.bipush (-2), 2) := by decide +kernel
theorem dX10_smallestKnot_53 : decode cX10_smallestKnot 53 = .ok (.ireturn, 1) := by decide +kernel
theorem dX10_smallestKnot_54 : decode cX10_smallestKnot 54 = .ok (.aload_n 0, 1) := by decide +kernel
theorem dX10_smallestKnot_55 : decode cX10_smallestKnot 55 = .ok (.getfield 413, 3) := by decide +kernel
theorem dX10_smallestKnot_58 : decode cX10_smallestKnot 58 = .ok (.ifCond .ne 5, 3) := by decide +kernel
theorem dX10_smallestKnot_61 : decode cX10_smallestKnot 61 = .ok (.iload_n 3, 1) := by decide +kernel
theorem dX10_smallestKnot_62 : decode cX10_smallestKnot 62 = .ok (.ireturn, 1) := by decide +kernel
theorem dX10_smallestKnot_63 : decode cX10_smallestKnot 63 = .ok (.iinc 3 1, 3) := by decide +kernel
theorem dX10_smallestKnot_66 : decode cX10_smallestKnot 66 = .ok (.goto (-51), 3) := by decide +kernel
theorem dX10_smallestKnot_69 : decode cX10_smallestKnot 69 = .ok (.iinc 2 1, 3) := by decide +kernel
theorem dX10_smallestKnot_72 : decode cX10_smallestKnot 72 = .ok (.goto (-65), 3) := by decide +kernel
theorem dX10_smallestKnot_75 : decode cX10_smallestKnot 75 = .ok (.iconst (-1), 1) := by decide +kernel
theorem dX10_smallestKnot_76 : decode cX10_smallestKnot 76 = .ok (.ireturn, 1) := by decide +kernel

theorem cut_1 {fs : List (Nat → Nat)} (h : fs.length ≤ 1) : (cutF fs).length = fs.length := by unfold cutF; rw [if_pos (by omega)]
set_option maxHeartbeats 4000000 in
set_option maxRecDepth 100000 in
theorem wi_X10_smallestKnot (m H M L : Nat) (lk : Nat → Nat) (rid : Nat → List Nat) (un : Bool) (Lt so de : Nat → Int32) (rb : Nat → Bool) (p z : Nat) {n : Nat} {kd : mK} {J : mJ} {P : mP} (hH8 : H ≤ 8) (hM20 : M ≤ 20) (hp : p < 256) (hz : z ≤ 8) (hrb : ∀ k, k < H → bt (nI p) k = true → rb k = true) (post : am_Post) : ∀ (c t : Nat) (I : mI), t + c = 256 → rfS kd P I m H M L lk rid un Lt so de rb → (∀ v I', kn1 (RK un Lt L H M lk (tvN so de (nI M) H rid)) (okK p z) c t = some v → rFr m I I' → post (.inl (some (.int v))) n kd I' J P) → (kn1 (RK un Lt L H M lk (tvN so de (nI M) H rid)) (okK p z) c t = none → ∀ I', rFr m I I' → Ru yX10_smallestKnot.cls cX10_smallestKnot 4 (some .int) yX10_smallestKnot.name 6 (post) 0 0 69 [some (.ref m), some (.int (nI p)), some (.int (nI z)), some (.int (nI 256))] [] n kd I' J P) → Ru yX10_smallestKnot.cls cX10_smallestKnot 4 (some .int) yX10_smallestKnot.name 6 (post) 0 0 15 [some (.ref m), some (.int (nI p)), some (.int (nI z)), some (.int (nI t))] [] n kd I J P := by
  intro c
  induction c with
  | zero =>
    intro t I ht hk h1 h2
    have ht1 : t = 256 := by omega
    subst ht1
    refine r_iload_n dX10_smallestKnot_15 rfl ?_
    refine r_sipush (v := nI 256) dX10_smallestKnot_16 (by decide) ?_
    refine r_icmp_ge (tgt := 69) dX10_smallestKnot_19 (by decide) (fun _ => ?_) (fun hz => absurd (show _ from (by rw [nI_leI (by omega) (by omega)]; omega)) hz)
    exact h2 rfl I rFr.rf
  | succ c ih =>
    intro t I ht hk h1 h2
    unfold kn1 at h1 h2
    have h8 := pc8_le t (by omega)
    by_cases c1 : subK p t = true
    · have hsub := c1
      have c1' : nI t &&& (nI p ^^^ (-1)) = 0 := of_decide_eq_true c1
      by_cases cz : pc8 t = z
      · have hok : okK p z t = true := by unfold okK; rw [c1, decide_eq_true cz]; rfl
        by_cases c3 : (resK un Lt L H M lk (tvN so de (nI M) H rid) t).2.2 = true
        · have hR : (RK un Lt L H M lk (tvN so de (nI M) H rid)) t = -2 := by unfold RK skv; rw [if_pos c3]
          rw [if_pos ⟨hok, by rw [hR]; decide⟩, if_pos hR] at h1
          refine r_iload_n dX10_smallestKnot_15 rfl ?_
          refine r_sipush (v := nI 256) dX10_smallestKnot_16 (by decide) ?_
          refine r_icmp_ge (tgt := 69) dX10_smallestKnot_19 (by decide) (fun hz => absurd hz (show ¬ _ from (by rw [nI_leI (by omega) (by omega)]; omega))) (fun _ => ?_)
          refine r_iload_n dX10_smallestKnot_22 rfl ?_
          refine r_iload_n dX10_smallestKnot_23 rfl ?_
          refine r_iconst (v := (-1)) dX10_smallestKnot_24 (by decide) ?_
          refine r_ixor dX10_smallestKnot_25 ?_
          refine r_iand dX10_smallestKnot_26 ?_
          refine r_if_ne (tgt := 63) dX10_smallestKnot_27 (by decide) (fun hz => absurd (show _ from c1') hz) (fun _ => ?_)
          refine r_iload_n dX10_smallestKnot_30 rfl ?_
          refine r_statE (c_X10_bits (nI t)) lk_X10_448 mc_X10_bits dX10_smallestKnot_31 (by decide) rfl rfl (Nat.le_of_ble_eq_true rfl) ?_
          rw [pc_21 t (by omega)]
          refine r_iload_n dX10_smallestKnot_34 rfl ?_
          refine r_icmp_eq (tgt := 41) dX10_smallestKnot_35 (by decide) (fun _ => ?_) (fun hz => absurd (show _ from by rw [cz]) hz)
          refine r_aload_n dX10_smallestKnot_41 rfl ?_
          refine r_iload_n dX10_smallestKnot_42 rfl ?_
          refine r_iconst (v := nI 0) dX10_smallestKnot_43 (by decide) ?_
          refine r_iconst (v := nI 1) dX10_smallestKnot_44 (by decide) ?_
          have hk2 := resK_eq (un := un) (Lt := Lt) (L := L) (H := H) (M := M) (lk := lk) (tv := tvN so de (nI M) H rid) t hH8 hM20
          have hlen : (resK un Lt L H M lk (tvN so de (nI M) H rid) t).2.1.length ≤ 1 := skTop_len (by decide) hk2
          refine r_virt (c_seeksN m H M L lk rid un Lt so de rb (nI t) (nI 0) 1 _ hk hH8 hM20 (by decide) (by decide) (fun k hk3 hx => hrb k hk3 (sub_bit hsub k (by omega) hx)) hk2) lk_X10_432 mc_X10_seeks dX10_smallestKnot_45 hk.1.1 (by decide) rfl rfl (Nat.le_of_ble_eq_true rfl) (Nat.le_of_eq (Nat.zero_add _)) (Nat.le_of_eq (Nat.zero_add _)) (fun _ _ _ _ _ _ h => nomatch h.1) ?_
          rintro v n' kd' I' J' P' ⟨h0, rfl, rfl, rfl, rfl, hfr2, e52, -⟩
          cases h0
          simp only [Option.toList, List.cons_append, List.nil_append]
          rw [cut_1 hlen] at e52
          refine r_if_ne (tgt := 54) dX10_smallestKnot_48 (by decide) (fun hz => absurd (show _ from by rw [c3]; rfl) hz) (fun _ => ?_)
          refine r_bipush (v := (-2)) dX10_smallestKnot_51 (by decide) ?_
          refine r_iret rfl dX10_smallestKnot_53 ?_
          exact h1 _ _ rfl hfr2
        · have c3' : (resK un Lt L H M lk (tvN so de (nI M) H rid) t).2.2 = false := by simpa using c3
          have hR : (RK un Lt L H M lk (tvN so de (nI M) H rid)) t = nI (resK un Lt L H M lk (tvN so de (nI M) H rid) t).2.1.length := by unfold RK skv; rw [if_neg c3]
          have hlen9 : (resK un Lt L H M lk (tvN so de (nI M) H rid) t).2.1.length ≤ 1 := skTop_len (by decide) (resK_eq (un := un) (Lt := Lt) (L := L) (H := H) (M := M) (lk := lk) (tv := tvN so de (nI M) H rid) t hH8 hM20)
          have hb1 : bz (!(resK un Lt L H M lk (tvN so de (nI M) H rid) t).2.2 && decide ((resK un Lt L H M lk (tvN so de (nI M) H rid) t).2.1.length ≤ 1000)) = nI 1 := by rw [c3', decide_eq_true (by omega)]; rfl
          by_cases c4 : (resK un Lt L H M lk (tvN so de (nI M) H rid) t).2.1.length = 0
          · rw [if_pos ⟨hok, by rw [hR, c4]; decide⟩, if_neg (by rw [hR, c4]; decide)] at h1
            refine r_iload_n dX10_smallestKnot_15 rfl ?_
            refine r_sipush (v := nI 256) dX10_smallestKnot_16 (by decide) ?_
            refine r_icmp_ge (tgt := 69) dX10_smallestKnot_19 (by decide) (fun hz => absurd hz (show ¬ _ from (by rw [nI_leI (by omega) (by omega)]; omega))) (fun _ => ?_)
            refine r_iload_n dX10_smallestKnot_22 rfl ?_
            refine r_iload_n dX10_smallestKnot_23 rfl ?_
            refine r_iconst (v := (-1)) dX10_smallestKnot_24 (by decide) ?_
            refine r_ixor dX10_smallestKnot_25 ?_
            refine r_iand dX10_smallestKnot_26 ?_
            refine r_if_ne (tgt := 63) dX10_smallestKnot_27 (by decide) (fun hz => absurd (show _ from c1') hz) (fun _ => ?_)
            refine r_iload_n dX10_smallestKnot_30 rfl ?_
            refine r_statE (c_X10_bits (nI t)) lk_X10_448 mc_X10_bits dX10_smallestKnot_31 (by decide) rfl rfl (Nat.le_of_ble_eq_true rfl) ?_
            rw [pc_21 t (by omega)]
            refine r_iload_n dX10_smallestKnot_34 rfl ?_
            refine r_icmp_eq (tgt := 41) dX10_smallestKnot_35 (by decide) (fun _ => ?_) (fun hz => absurd (show _ from by rw [cz]) hz)
            refine r_aload_n dX10_smallestKnot_41 rfl ?_
            refine r_iload_n dX10_smallestKnot_42 rfl ?_
            refine r_iconst (v := nI 0) dX10_smallestKnot_43 (by decide) ?_
            refine r_iconst (v := nI 1) dX10_smallestKnot_44 (by decide) ?_
            have hk2 := resK_eq (un := un) (Lt := Lt) (L := L) (H := H) (M := M) (lk := lk) (tv := tvN so de (nI M) H rid) t hH8 hM20
            have hlen : (resK un Lt L H M lk (tvN so de (nI M) H rid) t).2.1.length ≤ 1 := skTop_len (by decide) hk2
            refine r_virt (c_seeksN m H M L lk rid un Lt so de rb (nI t) (nI 0) 1 _ hk hH8 hM20 (by decide) (by decide) (fun k hk3 hx => hrb k hk3 (sub_bit hsub k (by omega) hx)) hk2) lk_X10_432 mc_X10_seeks dX10_smallestKnot_45 hk.1.1 (by decide) rfl rfl (Nat.le_of_ble_eq_true rfl) (Nat.le_of_eq (Nat.zero_add _)) (Nat.le_of_eq (Nat.zero_add _)) (fun _ _ _ _ _ _ h => nomatch h.1) ?_
            rintro v n' kd' I' J' P' ⟨h0, rfl, rfl, rfl, rfl, hfr2, e52, -⟩
            cases h0
            simp only [Option.toList, List.cons_append, List.nil_append]
            rw [cut_1 hlen] at e52
            refine r_if_ne (tgt := 54) dX10_smallestKnot_48 (by decide) (fun _ => ?_) (fun hz => absurd hz (show ¬ _ from by rw [hb1]; decide))
            refine r_aload_n dX10_smallestKnot_54 rfl ?_
            refine r_getI dX10_smallestKnot_55 fl_X10_413 rfl hk.1.1 ?_
            rw [e52]
            refine r_if_ne (tgt := 63) dX10_smallestKnot_58 (by decide) (fun hz => absurd (show _ from by rw [c4]; rfl) hz) (fun _ => ?_)
            refine r_iload_n dX10_smallestKnot_61 rfl ?_
            refine r_iret rfl dX10_smallestKnot_62 ?_
            exact h1 _ _ rfl hfr2
          · rw [if_neg (fun y => by have y2 := y.2; rw [hR, nI_ltI (by omega) (by omega)] at y2; omega)] at h1 h2
            refine r_iload_n dX10_smallestKnot_15 rfl ?_
            refine r_sipush (v := nI 256) dX10_smallestKnot_16 (by decide) ?_
            refine r_icmp_ge (tgt := 69) dX10_smallestKnot_19 (by decide) (fun hz => absurd hz (show ¬ _ from (by rw [nI_leI (by omega) (by omega)]; omega))) (fun _ => ?_)
            refine r_iload_n dX10_smallestKnot_22 rfl ?_
            refine r_iload_n dX10_smallestKnot_23 rfl ?_
            refine r_iconst (v := (-1)) dX10_smallestKnot_24 (by decide) ?_
            refine r_ixor dX10_smallestKnot_25 ?_
            refine r_iand dX10_smallestKnot_26 ?_
            refine r_if_ne (tgt := 63) dX10_smallestKnot_27 (by decide) (fun hz => absurd (show _ from c1') hz) (fun _ => ?_)
            refine r_iload_n dX10_smallestKnot_30 rfl ?_
            refine r_statE (c_X10_bits (nI t)) lk_X10_448 mc_X10_bits dX10_smallestKnot_31 (by decide) rfl rfl (Nat.le_of_ble_eq_true rfl) ?_
            rw [pc_21 t (by omega)]
            refine r_iload_n dX10_smallestKnot_34 rfl ?_
            refine r_icmp_eq (tgt := 41) dX10_smallestKnot_35 (by decide) (fun _ => ?_) (fun hz => absurd (show _ from by rw [cz]) hz)
            refine r_aload_n dX10_smallestKnot_41 rfl ?_
            refine r_iload_n dX10_smallestKnot_42 rfl ?_
            refine r_iconst (v := nI 0) dX10_smallestKnot_43 (by decide) ?_
            refine r_iconst (v := nI 1) dX10_smallestKnot_44 (by decide) ?_
            have hk2 := resK_eq (un := un) (Lt := Lt) (L := L) (H := H) (M := M) (lk := lk) (tv := tvN so de (nI M) H rid) t hH8 hM20
            have hlen : (resK un Lt L H M lk (tvN so de (nI M) H rid) t).2.1.length ≤ 1 := skTop_len (by decide) hk2
            refine r_virt (c_seeksN m H M L lk rid un Lt so de rb (nI t) (nI 0) 1 _ hk hH8 hM20 (by decide) (by decide) (fun k hk3 hx => hrb k hk3 (sub_bit hsub k (by omega) hx)) hk2) lk_X10_432 mc_X10_seeks dX10_smallestKnot_45 hk.1.1 (by decide) rfl rfl (Nat.le_of_ble_eq_true rfl) (Nat.le_of_eq (Nat.zero_add _)) (Nat.le_of_eq (Nat.zero_add _)) (fun _ _ _ _ _ _ h => nomatch h.1) ?_
            rintro v n' kd' I' J' P' ⟨h0, rfl, rfl, rfl, rfl, hfr2, e52, -⟩
            cases h0
            simp only [Option.toList, List.cons_append, List.nil_append]
            rw [cut_1 hlen] at e52
            refine r_if_ne (tgt := 54) dX10_smallestKnot_48 (by decide) (fun _ => ?_) (fun hz => absurd hz (show ¬ _ from by rw [hb1]; decide))
            refine r_aload_n dX10_smallestKnot_54 rfl ?_
            refine r_getI dX10_smallestKnot_55 fl_X10_413 rfl hk.1.1 ?_
            rw [e52]
            refine r_if_ne (tgt := 63) dX10_smallestKnot_58 (by decide) (fun _ => ?_) (fun hz => absurd hz (show ¬ _ from nI_ne0 (by omega) (by omega)))
            refine r_iinc (v := nI (t + 1)) dX10_smallestKnot_63 rfl (nI_inc t) ?_
            refine r_goto (tgt := 15) dX10_smallestKnot_66 (by decide) ?_
            exact ih (t + 1) I' (by omega) (hk.fr hfr2) (fun v I2 hv hf => h1 v I2 hv (hfr2.tr hf)) (fun hv I2 hf => h2 hv I2 (hfr2.tr hf))
      · have hok : ¬ okK p z t = true := by unfold okK; rw [decide_eq_false cz, Bool.and_false]; decide
        rw [if_neg (fun y => hok y.1)] at h1 h2
        refine r_iload_n dX10_smallestKnot_15 rfl ?_
        refine r_sipush (v := nI 256) dX10_smallestKnot_16 (by decide) ?_
        refine r_icmp_ge (tgt := 69) dX10_smallestKnot_19 (by decide) (fun hz => absurd hz (show ¬ _ from (by rw [nI_leI (by omega) (by omega)]; omega))) (fun _ => ?_)
        refine r_iload_n dX10_smallestKnot_22 rfl ?_
        refine r_iload_n dX10_smallestKnot_23 rfl ?_
        refine r_iconst (v := (-1)) dX10_smallestKnot_24 (by decide) ?_
        refine r_ixor dX10_smallestKnot_25 ?_
        refine r_iand dX10_smallestKnot_26 ?_
        refine r_if_ne (tgt := 63) dX10_smallestKnot_27 (by decide) (fun hz => absurd (show _ from c1') hz) (fun _ => ?_)
        refine r_iload_n dX10_smallestKnot_30 rfl ?_
        refine r_statE (c_X10_bits (nI t)) lk_X10_448 mc_X10_bits dX10_smallestKnot_31 (by decide) rfl rfl (Nat.le_of_ble_eq_true rfl) ?_
        rw [pc_21 t (by omega)]
        refine r_iload_n dX10_smallestKnot_34 rfl ?_
        refine r_icmp_eq (tgt := 41) dX10_smallestKnot_35 (by decide) (fun hz => absurd hz (show ¬ _ from by rw [nI_eq (by omega) (by omega)]; exact cz)) (fun _ => ?_)
        refine r_goto (tgt := 63) dX10_smallestKnot_38 (by decide) ?_
        refine r_iinc (v := nI (t + 1)) dX10_smallestKnot_63 rfl (nI_inc t) ?_
        refine r_goto (tgt := 15) dX10_smallestKnot_66 (by decide) ?_
        exact ih (t + 1) I (by omega) hk h1 h2
    · have hok : ¬ okK p z t = true := by unfold okK; intro y; rw [Bool.and_eq_true] at y; exact c1 y.1
      rw [if_neg (fun y => hok y.1)] at h1 h2
      have c1' : ¬ nI t &&& (nI p ^^^ (-1)) = 0 := fun y => c1 (decide_eq_true y)
      refine r_iload_n dX10_smallestKnot_15 rfl ?_
      refine r_sipush (v := nI 256) dX10_smallestKnot_16 (by decide) ?_
      refine r_icmp_ge (tgt := 69) dX10_smallestKnot_19 (by decide) (fun hz => absurd hz (show ¬ _ from (by rw [nI_leI (by omega) (by omega)]; omega))) (fun _ => ?_)
      refine r_iload_n dX10_smallestKnot_22 rfl ?_
      refine r_iload_n dX10_smallestKnot_23 rfl ?_
      refine r_iconst (v := (-1)) dX10_smallestKnot_24 (by decide) ?_
      refine r_ixor dX10_smallestKnot_25 ?_
      refine r_iand dX10_smallestKnot_26 ?_
      refine r_if_ne (tgt := 63) dX10_smallestKnot_27 (by decide) (fun _ => ?_) (fun hz => absurd hz (show ¬ _ from c1'))
      refine r_iinc (v := nI (t + 1)) dX10_smallestKnot_63 rfl (nI_inc t) ?_
      refine r_goto (tgt := 15) dX10_smallestKnot_66 (by decide) ?_
      exact ih (t + 1) I (by omega) hk h1 h2

set_option maxHeartbeats 4000000 in
set_option maxRecDepth 100000 in
theorem wo_X10_smallestKnot (m H M L : Nat) (lk : Nat → Nat) (rid : Nat → List Nat) (un : Bool) (Lt so de : Nat → Int32) (rb : Nat → Bool) (p : Nat) {n : Nat} {kd : mK} {J : mJ} {P : mP} (hH8 : H ≤ 8) (hM20 : M ≤ 20) (hp : p < 256) (hrb : ∀ k, k < H → bt (nI p) k = true → rb k = true) : ∀ (c z : Nat) (z3 : Option Value) (I : mI), z + c = 9 → rfS kd P I m H M L lk rid un Lt so de rb → Ru yX10_smallestKnot.cls cX10_smallestKnot 4 (some .int) yX10_smallestKnot.name 6 (fun y n' kd' I' J' P' => y = .inl (some (.int (kn2 (RK un Lt L H M lk (tvN so de (nI M) H rid)) p 256 c z))) ∧ n' = n ∧ kd' = kd ∧ J' = J ∧ P' = P ∧ rFr m I I') 0 0 7 [some (.ref m), some (.int (nI p)), some (.int (nI z)), z3] [] n kd I J P := by
  intro c
  induction c with
  | zero =>
    intro z z3 I hz hk
    unfold kn2
    refine r_iload_n dX10_smallestKnot_7 rfl ?_
    refine r_bipush (v := nI 8) dX10_smallestKnot_8 (by decide) ?_
    refine r_icmp_gt (tgt := 75) dX10_smallestKnot_10 (by decide) (fun _ => ?_) (fun hz => absurd (show _ from (by rw [nI_ltI (by omega) (by omega)]; omega)) hz)
    refine r_iconst (v := (-1)) dX10_smallestKnot_75 (by decide) ?_
    refine r_iret rfl dX10_smallestKnot_76 ?_
    exact ⟨rfl, rfl, rfl, rfl, rfl, rFr.rf⟩
  | succ c ih =>
    intro z z3 I hz hk
    unfold kn2
    refine r_iload_n dX10_smallestKnot_7 rfl ?_
    refine r_bipush (v := nI 8) dX10_smallestKnot_8 (by decide) ?_
    refine r_icmp_gt (tgt := 75) dX10_smallestKnot_10 (by decide) (fun hz => absurd hz (show ¬ _ from (by rw [nI_ltI (by omega) (by omega)]; omega))) (fun _ => ?_)
    refine r_iconst (v := nI 0) dX10_smallestKnot_13 (by decide) ?_
    refine r_istore_n dX10_smallestKnot_14 (by decide) ?_
    refine wi_X10_smallestKnot m H M L lk rid un Lt so de rb p z hH8 hM20 hp (by omega) hrb _ 256 0 I (by omega) hk (fun v I' hv hf => ?_) (fun hv I' hf => ?_)
    · rw [hv]
      exact ⟨rfl, rfl, rfl, rfl, rfl, hf⟩
    · rw [hv]
      have hn := ih (z + 1) (some (.int (nI 256))) I' (by omega) (hk.fr hf)
      refine r_iinc (v := nI (z + 1)) dX10_smallestKnot_69 rfl (nI_inc z) ?_
      refine r_goto (tgt := 7) dX10_smallestKnot_72 (by decide) ?_
      exact RuZ.mono hn (fun y n' kd' I2 J2 P2 h => ⟨h.1, h.2.1, h.2.2.1, h.2.2.2.1, h.2.2.2.2.1, hf.tr h.2.2.2.2.2⟩)

set_option maxHeartbeats 4000000 in
set_option maxRecDepth 100000 in
theorem c_X10_smallestKnot (m H M L : Nat) (lk : Nat → Nat) (rid : Nat → List Nat) (un : Bool) (Lt so de : Nat → Int32) (rb : Nat → Bool) (p : Nat) {n : Nat} {kd : mK} {I : mI} {J : mJ} {P : mP} (hk : rfS kd P I m H M L lk rid un Lt so de rb) (hH8 : H ≤ 8) (hM20 : M ≤ 20) (hp : p < 256) (hrb : ∀ k, k < H → bt (nI p) k = true → rb k = true) (hsp : spR (I (m + 3)) (I (m + 4)) H = nI p) : Ct yX10_smallestKnot cX10_smallestKnot 4 (some .int) 6 0 0 [.ref m] n kd I J P (fun y n' kd' I' J' P' => y = .inl (some (.int (kn2 (RK un Lt L H M lk (tvN so de (nI M) H rid)) p 256 9 0))) ∧ n' = n ∧ kd' = kd ∧ J' = J ∧ P' = P ∧ rFr m I I') := by
  refine ct_of 3 (by decide +kernel) (Nat.le_of_ble_eq_true rfl) rfl ?_
  refine r_aload_n dX10_smallestKnot_0 rfl ?_
  refine r_virtE (c_X10_speaking m H hk.1 hk.2.1 hH8) lk_X10_429 mc_X10_speaking dX10_smallestKnot_1 hk.1.1 (by decide) rfl rfl (Nat.le_of_ble_eq_true rfl) ?_
  rw [hsp]
  refine r_istore_n dX10_smallestKnot_4 (by decide) ?_
  refine r_iconst (v := nI 0) dX10_smallestKnot_5 (by decide) ?_
  refine r_istore_n dX10_smallestKnot_6 (by decide) ?_
  exact wo_X10_smallestKnot m H M L lk rid un Lt so de rb p hH8 hM20 hp hrb 9 0 none I (by omega) hk

theorem kn1_ext (R : Nat → Int32) (ok : Nat → Bool) (d : Nat) : ∀ (c s : Nat), (∀ j, s + c ≤ j → j < s + c + d → ok j = false) → kn1 R ok (c + d) s = kn1 R ok c s
  | 0, s, h => by
    rw [Nat.zero_add]
    induction d generalizing s with
    | zero => rfl
    | succ d ih =>
      show kn1 R ok (d + 1) s = none
      unfold kn1
      rw [if_neg (fun y => by have := h s (by omega) (by omega); rw [this] at y; exact absurd y.1 (by decide))]
      exact ih (s + 1) (fun j x y => h j (by omega) (by omega))
  | c + 1, s, h => by
    rw [show c + 1 + d = (c + d) + 1 by omega]
    unfold kn1
    rw [kn1_ext R ok d c (s + 1) (fun j x y => h j (by omega) (by omega))]
theorem kn1_none (R : Nat → Int32) (ok : Nat → Bool) : ∀ (c s : Nat), (∀ j, s ≤ j → j < s + c → ok j = false) → kn1 R ok c s = none
  | 0, s, _ => rfl
  | c + 1, s, h => by
    unfold kn1
    rw [if_neg (fun y => by have := h s (by omega) (by omega); rw [this] at y; exact absurd y.1 (by decide))]
    exact kn1_none R ok c (s + 1) (fun j x y => h j (by omega) (by omega))
theorem sub_le : ∀ p, p < 256 → ∀ s, s < 256 → subK p s = true → s ≤ p ∧ pc8 s ≤ pc8 p := by decide +kernel
theorem kn2_none (R : Nat → Int32) (p cnt : Nat) : ∀ (c z : Nat), (∀ y, z ≤ y → y < z + c → kn1 R (okK p y) cnt 0 = none) → kn2 R p cnt c z = -1
  | 0, z, _ => rfl
  | c + 1, z, h => by
    unfold kn2
    rw [h z (by omega) (by omega)]
    exact kn2_none R p cnt c (z + 1) (fun y a b => h y (by omega) (by omega))
theorem kn2_split (R : Nat → Int32) (p c1 c2 d : Nat) : ∀ (c z : Nat), (∀ y, z ≤ y → y < z + c → kn1 R (okK p y) c1 0 = kn1 R (okK p y) c2 0) → (∀ y, z + c ≤ y → y < z + c + d → kn1 R (okK p y) c2 0 = none) → kn2 R p c1 c z = kn2 R p c2 (c + d) z
  | 0, z, _, h2 => by
    rw [Nat.zero_add, kn2_none R p c2 d z (fun y a b => h2 y (by omega) (by omega))]
    rfl
  | c + 1, z, h1, h2 => by
    rw [show c + 1 + d = (c + d) + 1 by omega]
    unfold kn2
    rw [h1 z (by omega) (by omega), kn2_split R p c1 c2 d c (z + 1) (fun y a b => h1 y (by omega) (by omega)) (fun y a b => h2 y (by omega) (by omega))]
/-- class and reference find one knot -/
theorem kn_same (R : Nat → Int32) {p : Nat} (hp : p < 256) : kn2 R p (p + 1) (pc8 p + 1) 0 = kn2 R p 256 9 0 := by
  have h8 := pc8_le p hp
  have h := kn2_split R p (p + 1) 256 (8 - pc8 p) (pc8 p + 1) 0 (fun y _ _ => ?_) (fun y a b => ?_)
  · rw [h, show pc8 p + 1 + (8 - pc8 p) = 9 by omega]
  · rw [show (256 : Nat) = p + 1 + (255 - p) by omega]
    refine (kn1_ext R (okK p y) (255 - p) (p + 1) 0 (fun j c d => ?_)).symm
    unfold okK
    cases e : subK p j with
    | false => rfl
    | true => have := (sub_le p hp j (by omega) e).1; omega
  · refine kn1_none R (okK p y) 256 0 (fun j _ d => ?_)
    unfold okK
    cases e : subK p j with
    | false => rfl
    | true =>
      have := (sub_le p hp j (by omega) e).2
      rw [decide_eq_false (by omega)]; rfl

/-! DOES A HOUSE'S NUMBER STAND -/
def unl (N : Nat → Int32) (v : Int32) : Nat → Nat → Bool
  | 0, _ => true
  | c + 1, k => !decide (N k = v) && unl N v c (k + 1)
def rdl (A : Int32) (val : Nat → Int32) : Nat → Nat → Bool
  | 0, _ => true
  | c + 1, k => (!bt A k || !decide (val k = 0)) && rdl A val c (k + 1)
theorem rdl_none (A : Int32) (val : Nat → Int32) : ∀ (c k : Nat), (∀ j, k ≤ j → j < k + c → bt A j = false) → rdl A val c k = true
  | 0, _, _ => rfl
  | c + 1, k, h => by rw [rdl, h k (Nat.le_refl k) (by omega), rdl_none A val c (k + 1) (fun j h1 h2 => h j (by omega) (by omega))]; rfl
theorem b_gone {A : Int32} {k : Nat} (hk : k < 32) (h : A >>> (nI k &&& 31) = 0) : ∀ j, k ≤ j → j < 32 → bt A j = false := by
  intro j h1 h2
  have := b_sshr k hk A (i := j - k) (by omega)
  rw [h, b_0, if_pos (by omega), show k + (j - k) = j by omega] at this
  exact this.symm
theorem b_gone' {A : Int32} {k : Nat} (hk : k < 32) (h : ¬ A >>> (nI k &&& 31) = 0) : True := trivial
/-- the riddle of house k in the street's codes -/
def ridOk (I : mI) (b H : Nat) (rid : Nat → List Nat) (k : Nat) : Prop := k < H ∧ ∃ f, I (b + 3) k = nI f ∧ I (b + 4) k = nI (f + (rid k).length) ∧ f + (rid k).length ≤ 520 ∧ (∀ j, (hj : j < (rid k).length) → I (b + 2) (f + j) = nI (rid k)[j]) ∧ okd (rid k) 0 ∧ ∀ c ∈ rid k, c < 20012
def valS (I : mI) (b q l H : Nat) (rid : Nat → List Nat) (k : Nat) : Int32 := lastI (evs (opdS I b q l k H) (rid k) [])
theorem valS_up {I : mI} {b q l H : Nat} {rid : Nat → List Nat} {R : Nat → Int32} (hq : q ≠ b + 8) (hl1 : l + 1 ≠ b + 8) (hl2 : l + 2 ≠ b + 8) (k : Nat) : valS (va_up I (b + 8) R) b q l H rid k = valS I b q l H rid k := by
  unfold valS
  rw [show opdS (va_up I (b + 8) R) b q l k H = opdS I b q l k H from funext (opdS_up hq hl1 hl2)]
def stS (I : mI) (o b l H : Nat) (rid : Nat → List Nat) (h v : Nat) : Bool := bt (I (o + 2) h) v && ((decide (I b 2 = 0) || unl (I (o + 3)) (I (o + 3) h) h 0) && rdl (I (o + 1) h) (valS I b (o + 3) l H rid) 8 0)
def bz (x : Bool) : Int32 := if x then nI 1 else nI 0
theorem bz01 (x : Bool) : bz x = 0 ∨ bz x = 1 := by cases x; exact Or.inl rfl; exact Or.inr rfl
theorem dX6_stands_0 : decode cX6_stands 0 = .ok (.aload_n 0, 1) := by decide +kernel
theorem dX6_stands_1 : decode cX6_stands 1 = .ok (.getfield 33, 3) := by decide +kernel
theorem dX6_stands_4 : decode cX6_stands 4 = .ok (.iload_n 1, 1) := by decide +kernel
theorem dX6_stands_5 : decode cX6_stands 5 = .ok (.iaload, 1) := by decide +kernel
theorem dX6_stands_6 : decode cX6_stands 6 = .ok (.istore_n 2, 1) := by decide +kernel
theorem dX6_stands_7 : decode cX6_stands 7 = .ok (.aload_n 0, 1) := by decide +kernel
theorem dX6_stands_8 : decode cX6_stands 8 = .ok (.getfield 23, 3) := by decide +kernel
theorem dX6_stands_11 : decode cX6_stands 11 = .ok (.iload_n 1, 1) := by decide +kernel
theorem dX6_stands_12 : decode cX6_stands 12 = .ok (.iaload, 1) := by decide +kernel
theorem dX6_stands_13 : decode cX6_stands 13 = .ok (.iload_n 2, 1) := by decide +kernel
theorem dX6_stands_14 : decode cX6_stands 14 = .ok (.ishr, 1) := by decide +kernel
theorem dX6_stands_15 : decode cX6_stands 15 = .ok (.iconst 1, 1) := by decide +kernel
theorem dX6_stands_16 : decode cX6_stands 16 = .ok (.iand, 1) := by decide +kernel
theorem dX6_stands_17 : decode cX6_stands 17 = .ok (.ifCond .ne 5, 3) := by decide +kernel
theorem dX6_stands_20 : decode cX6_stands 20 = .ok (.iconst 0, 1) := by decide +kernel
theorem dX6_stands_21 : decode cX6_stands 21 = .ok (.ireturn, 1) := by decide +kernel
theorem dX6_stands_22 : decode cX6_stands 22 = .ok (.aload_n 0, 1) := by decide +kernel
theorem dX6_stands_23 : decode cX6_stands 23 = .ok (.getfield 9, 3) := by decide +kernel
theorem dX6_stands_26 : decode cX6_stands 26 = .ok (.getfield 83, 3) := by decide +kernel
theorem dX6_stands_29 : decode cX6_stands 29 = .ok (.ifCond .eq 28, 3) := by decide +kernel
theorem dX6_stands_32 : decode cX6_stands 32 = .ok (.iconst 0, 1) := by decide +kernel
theorem dX6_stands_33 : decode cX6_stands 33 = .ok (.istore_n 3, 1) := by decide +kernel
theorem dX6_stands_34 : decode cX6_stands 34 = .ok (.iload_n 3, 1) := by decide +kernel
theorem dX6_stands_35 : decode cX6_stands 35 = .ok (.iload_n 1, 1) := by decide +kernel
theorem dX6_stands_36 : decode cX6_stands 36 = .ok (.if_icmp .ge 21, 3) := by decide +kernel
theorem dX6_stands_39 : decode cX6_stands 39 = .ok (.aload_n 0, 1) := by decide +kernel
theorem dX6_stands_40 : decode cX6_stands 40 = .ok (.getfield 33, 3) := by decide +kernel
theorem dX6_stands_43 : decode cX6_stands 43 = .ok (.iload_n 3, 1) := by decide +kernel
theorem dX6_stands_44 : decode cX6_stands 44 = .ok (.iaload, 1) := by decide +kernel
theorem dX6_stands_45 : decode cX6_stands 45 = .ok (.iload_n 2, 1) := by decide +kernel
theorem dX6_stands_46 : decode cX6_stands 46 = .ok (.if_icmp .ne 5, 3) := by decide +kernel
theorem dX6_stands_49 : decode cX6_stands 49 = .ok (.iconst 0, 1) := by decide +kernel
theorem dX6_stands_50 : decode cX6_stands 50 = .ok (.ireturn, 1) := by decide +kernel
theorem dX6_stands_51 : decode cX6_stands 51 = .ok (.iinc 3 1, 3) := by decide +kernel
theorem dX6_stands_54 : decode cX6_stands 54 = .ok (.goto (-20), 3) := by decide +kernel
theorem dX6_stands_57 : decode cX6_stands 57 = .ok (.aload_n 0, 1) := by decide +kernel
theorem dX6_stands_58 : decode cX6_stands 58 = .ok (.getfield 19, 3) := by decide +kernel
theorem dX6_stands_61 : decode cX6_stands 61 = .ok (.iload_n 1, 1) := by decide +kernel
theorem dX6_stands_62 : decode cX6_stands 62 = .ok (.iaload, 1) := by decide +kernel
theorem dX6_stands_63 : decode cX6_stands 63 = .ok (.istore_n 3, 1) := by decide +kernel
theorem dX6_stands_64 : decode cX6_stands 64 = .ok (.iconst 0, 1) := by decide +kernel
theorem dX6_stands_65 : decode cX6_stands 65 = .ok (.istore 4, 2) := by decide +kernel
theorem dX6_stands_67 : decode cX6_stands 67 = .ok (.iload 4, 2) := by decide +kernel
theorem dX6_stands_69 : decode cX6_stands 69 = .ok (.bipush 8, 2) := by decide +kernel
theorem dX6_stands_71 : decode cX6_stands 71 = .ok (.if_icmp .ge 47, 3) := by decide +kernel
theorem dX6_stands_74 : decode cX6_stands 74 = .ok (.iload_n 3, 1) := by decide +kernel
theorem dX6_stands_75 : decode cX6_stands 75 = .ok (.iload 4, 2) := by decide +kernel
theorem dX6_stands_77 : decode cX6_stands 77 = .ok (.ishr, 1) := by decide +kernel
theorem dX6_stands_78 : decode cX6_stands 78 = .ok (.ifCond .eq 40, 3) := by decide +kernel
theorem dX6_stands_81 : decode cX6_stands 81 = .ok (.iload_n 3, 1) := by decide +kernel
theorem dX6_stands_82 : decode cX6_stands 82 = .ok (.iload 4, 2) := by decide +kernel
theorem dX6_stands_84 : decode cX6_stands 84 = .ok (.ishr, 1) := by decide +kernel
theorem dX6_stands_85 : decode cX6_stands 85 = .ok (.iconst 1, 1) := by decide +kernel
theorem dX6_stands_86 : decode cX6_stands 86 = .ok (.iand, 1) := by decide +kernel
theorem dX6_stands_87 : decode cX6_stands 87 = .ok (.ifCond .eq 25, 3) := by decide +kernel
theorem dX6_stands_90 : decode cX6_stands 90 = .ok (.aload_n 0, 1) := by decide +kernel
theorem dX6_stands_91 : decode cX6_stands 91 = .ok (.getfield 9, 3) := by decide +kernel
theorem dX6_stands_94 : decode cX6_stands 94 = .ok (.iload 4, 2) := by decide +kernel
theorem dX6_stands_96 : decode cX6_stands 96 = .ok (.aload_n 0, 1) := by decide +kernel
theorem dX6_stands_97 : decode cX6_stands 97 = .ok (.getfield 33, 3) := by decide +kernel
theorem dX6_stands_100 : decode cX6_stands 100 = .ok (.aload_n 0, 1) := by decide +kernel
theorem dX6_stands_101 : decode cX6_stands 101 = .ok (.getfield 15, 3) := by decide +kernel
theorem dX6_stands_104 : decode cX6_stands 104 = .ok (.invokevirtual 87, 3) := by decide +kernel
theorem dX6_stands_107 : decode cX6_stands 107 = .ok (.ifCond .ne 5, 3) := by decide +kernel
theorem dX6_stands_110 : decode cX6_stands 110 = .ok (.iconst 0, 1) := by decide +kernel
theorem dX6_stands_111 : decode cX6_stands 111 = .ok (.ireturn, 1) := by decide +kernel
theorem dX6_stands_112 : decode cX6_stands 112 = .ok (.iinc 4 1, 3) := by decide +kernel
theorem dX6_stands_115 : decode cX6_stands 115 = .ok (.goto (-48), 3) := by decide +kernel
theorem dX6_stands_118 : decode cX6_stands 118 = .ok (.iconst 1, 1) := by decide +kernel
theorem dX6_stands_119 : decode cX6_stands 119 = .ok (.ireturn, 1) := by decide +kernel

set_option maxHeartbeats 4000000 in
set_option maxRecDepth 100000 in
theorem w_X6_stands2 (o b l H h v : Nat) (rid : Nat → List Nat) {n : Nat} {kd : mK} {I : mI} {J : mJ} {P : mP} (hS : kS kd P b) (hL : kL kd P l) (hQ : kQ kd P o) (hpb : P o 0 = some b) (hpl : P o 1 = some l) (hbl : b + 9 < l) (hlo : l + 5 < o) (hH8 : H ≤ 8) (hH : I b 0 = nI H) (hh : h < H) (hv : I (o + 3) h = nI v) (hv2 : v < 32) (hrd : ∀ k, k < 8 → bt (I (o + 1) h) k = true → ridOk I b H rid k) : ∀ (c : Nat) {R : Nat → Int32} (k : Nat), k + c = 8 → Ru yX6_stands.cls cX6_stands 5 (some .boolean) yX6_stands.name 4 (am_sc (some (.int (bz (rdl (I (o + 1) h) (valS I b (o + 3) l H rid) c k)))) (b + 8) n kd I J P) 0 0 67 [some (.ref o), some (.int (nI h)), some (.int (nI v)), some (.int (I (o + 1) h)), some (.int (nI k))] [] n kd (va_up I (b + 8) R) J P := by
  have hS0 := hS
  obtain ⟨s0, s1, s2, s3, s4, s5, s6, s7, s8, s9, p4, p5, p7, p8, p9, p11, p12, p13, p14⟩ := hS
  have hL0 := hL
  obtain ⟨l0, l1, l2, l3, l4, l5, q0, q1, q3, q5, q6⟩ := hL
  have hQ0 := hQ
  obtain ⟨t0, t1, t2, t3, t4, t5, u2, u3, u6, u7, u8⟩ := hQ
  intro c
  induction c with
  | zero =>
    intro R k hk
    have hk : k = 8 := by omega
    subst hk
    refine r_iload dX6_stands_67 rfl ?_
    refine r_bipush (v := nI 8) dX6_stands_69 (by decide) ?_
    refine r_icmp_ge (tgt := 118) dX6_stands_71 (by decide) (fun _ => ?_) (fun hz => absurd (show _ from (by rw [nI_leI (by omega) (by omega)]; omega)) hz)
    refine r_iconst (v := nI 1) dX6_stands_118 (by decide) ?_
    refine r_zret rfl dX6_stands_119 (by first | exact Or.inl rfl | exact Or.inr rfl | assumption) ?_
    exact ⟨R, rfl, rfl, rfl, rfl, rfl, rfl⟩
  | succ c ih =>
    intro R k hk
    by_cases hg : I (o + 1) h >>> (nI k &&& 31) = 0
    · skip
      refine r_iload dX6_stands_67 rfl ?_
      refine r_bipush (v := nI 8) dX6_stands_69 (by decide) ?_
      refine r_icmp_ge (tgt := 118) dX6_stands_71 (by decide) (fun hz => absurd hz (show ¬ _ from (by rw [nI_leI (by omega) (by omega)]; omega))) (fun _ => ?_)
      refine r_iload_n dX6_stands_74 rfl ?_
      refine r_iload dX6_stands_75 rfl ?_
      refine r_ishr dX6_stands_77 ?_
      refine r_if_eq (tgt := 118) dX6_stands_78 (by decide) (fun _ => ?_) (fun hz => absurd (show _ from hg) hz)
      refine r_iconst (v := nI 1) dX6_stands_118 (by decide) ?_
      refine r_zret rfl dX6_stands_119 (by first | exact Or.inl rfl | exact Or.inr rfl | assumption) ?_
      exact ⟨R, by rw [rdl_none _ _ (c + 1) k (fun j h1 h2 => b_gone (by omega) hg j h1 (by omega))]; rfl, rfl, rfl, rfl, rfl, rfl⟩
    · cases hb : bt (I (o + 1) h) k with
      | false =>
        refine r_iload dX6_stands_67 rfl ?_
        refine r_bipush (v := nI 8) dX6_stands_69 (by decide) ?_
        refine r_icmp_ge (tgt := 118) dX6_stands_71 (by decide) (fun hz => absurd hz (show ¬ _ from (by rw [nI_leI (by omega) (by omega)]; omega))) (fun _ => ?_)
        refine r_iload_n dX6_stands_74 rfl ?_
        refine r_iload dX6_stands_75 rfl ?_
        refine r_ishr dX6_stands_77 ?_
        refine r_if_eq (tgt := 118) dX6_stands_78 (by decide) (fun hz => absurd hz (show ¬ _ from hg)) (fun _ => ?_)
        refine r_iload_n dX6_stands_81 rfl ?_
        refine r_iload dX6_stands_82 rfl ?_
        refine r_ishr dX6_stands_84 ?_
        refine r_iconst (v := nI 1) dX6_stands_85 (by decide) ?_
        refine r_iand dX6_stands_86 ?_
        refine r_if_eq (tgt := 112) dX6_stands_87 (by decide) (fun _ => ?_) (fun hz => absurd (show _ from (by rw [b_ask0 _ (by omega)]; exact hb)) hz)
        refine r_iinc (v := nI (k + 1)) dX6_stands_112 rfl (nI_inc k) ?_
        refine r_goto (tgt := 67) dX6_stands_115 (by decide) ?_
        have hgo := ih (R := R) (k + 1) (by omega)
        rw [rdl, hb]
        exact hgo
      | true =>
        obtain ⟨hk1, f, f1, f2, f3, f4, f5, f6⟩ := hrd k (by omega) hb
        by_cases hz0 : valS I b (o + 3) l H rid k = 0
        · skip
          refine r_iload dX6_stands_67 rfl ?_
          refine r_bipush (v := nI 8) dX6_stands_69 (by decide) ?_
          refine r_icmp_ge (tgt := 118) dX6_stands_71 (by decide) (fun hz => absurd hz (show ¬ _ from (by rw [nI_leI (by omega) (by omega)]; omega))) (fun _ => ?_)
          refine r_iload_n dX6_stands_74 rfl ?_
          refine r_iload dX6_stands_75 rfl ?_
          refine r_ishr dX6_stands_77 ?_
          refine r_if_eq (tgt := 118) dX6_stands_78 (by decide) (fun hz => absurd hz (show ¬ _ from hg)) (fun _ => ?_)
          refine r_iload_n dX6_stands_81 rfl ?_
          refine r_iload dX6_stands_82 rfl ?_
          refine r_ishr dX6_stands_84 ?_
          refine r_iconst (v := nI 1) dX6_stands_85 (by decide) ?_
          refine r_iand dX6_stands_86 ?_
          refine r_if_eq (tgt := 112) dX6_stands_87 (by decide) (fun hz => absurd hz (show ¬ _ from (by rw [b_ask0 _ (by omega), hb]; decide))) (fun _ => ?_)
          refine r_aload_n dX6_stands_90 rfl ?_
          refine r_getR dX6_stands_91 fl_X6_9 rfl (by assumption) (by assumption) ?_
          refine r_iload dX6_stands_94 rfl ?_
          refine r_aload_n dX6_stands_96 rfl ?_
          refine r_getR dX6_stands_97 fl_X6_33 rfl (by assumption) (by assumption) ?_
          refine r_aload_n dX6_stands_100 rfl ?_
          refine r_getR dX6_stands_101 fl_X6_15 rfl (by assumption) (by assumption) ?_
          refine r_virtS (c_X7_valueOf b (o + 3) l k H f (f + (rid k).length) (rid k) hS0 hL0 t3 (by omega) (by omega) (by omega) hk1 hH8 (by rw [am_up_n I R (by omega : b ≠ b + 8)]; exact hH) (by rw [am_up_n I R (by omega : b + 4 ≠ b + 8)]; exact f2) f3 (by rw [am_up_n I R (by omega : b + 3 ≠ b + 8)]; exact f1) rfl (by rw [am_up_n I R (by omega : b + 2 ≠ b + 8)]; exact f4) f5 f6) lk_X6_87 mc_X7_valueOf dX6_stands_104 s0 (by decide) rfl rfl (Nat.le_of_ble_eq_true rfl) (fun R2 => ?_)
          rw [am_up_up I, show lastI (evs (opdS (va_up I (b + 8) R) b (o + 3) l k H) (rid k) []) = valS I b (o + 3) l H rid k from valS_up (by omega) (by omega) (by omega) k]
          refine r_if_ne (tgt := 112) dX6_stands_107 (by decide) (fun hz => absurd (show _ from hz0) hz) (fun _ => ?_)
          refine r_iconst (v := nI 0) dX6_stands_110 (by decide) ?_
          refine r_zret rfl dX6_stands_111 (by first | exact Or.inl rfl | exact Or.inr rfl | assumption) ?_
          exact ⟨R2, by rw [rdl, hb, decide_eq_true hz0]; rfl, rfl, rfl, rfl, rfl, rfl⟩
        · skip
          refine r_iload dX6_stands_67 rfl ?_
          refine r_bipush (v := nI 8) dX6_stands_69 (by decide) ?_
          refine r_icmp_ge (tgt := 118) dX6_stands_71 (by decide) (fun hz => absurd hz (show ¬ _ from (by rw [nI_leI (by omega) (by omega)]; omega))) (fun _ => ?_)
          refine r_iload_n dX6_stands_74 rfl ?_
          refine r_iload dX6_stands_75 rfl ?_
          refine r_ishr dX6_stands_77 ?_
          refine r_if_eq (tgt := 118) dX6_stands_78 (by decide) (fun hz => absurd hz (show ¬ _ from hg)) (fun _ => ?_)
          refine r_iload_n dX6_stands_81 rfl ?_
          refine r_iload dX6_stands_82 rfl ?_
          refine r_ishr dX6_stands_84 ?_
          refine r_iconst (v := nI 1) dX6_stands_85 (by decide) ?_
          refine r_iand dX6_stands_86 ?_
          refine r_if_eq (tgt := 112) dX6_stands_87 (by decide) (fun hz => absurd hz (show ¬ _ from (by rw [b_ask0 _ (by omega), hb]; decide))) (fun _ => ?_)
          refine r_aload_n dX6_stands_90 rfl ?_
          refine r_getR dX6_stands_91 fl_X6_9 rfl (by assumption) (by assumption) ?_
          refine r_iload dX6_stands_94 rfl ?_
          refine r_aload_n dX6_stands_96 rfl ?_
          refine r_getR dX6_stands_97 fl_X6_33 rfl (by assumption) (by assumption) ?_
          refine r_aload_n dX6_stands_100 rfl ?_
          refine r_getR dX6_stands_101 fl_X6_15 rfl (by assumption) (by assumption) ?_
          refine r_virtS (c_X7_valueOf b (o + 3) l k H f (f + (rid k).length) (rid k) hS0 hL0 t3 (by omega) (by omega) (by omega) hk1 hH8 (by rw [am_up_n I R (by omega : b ≠ b + 8)]; exact hH) (by rw [am_up_n I R (by omega : b + 4 ≠ b + 8)]; exact f2) f3 (by rw [am_up_n I R (by omega : b + 3 ≠ b + 8)]; exact f1) rfl (by rw [am_up_n I R (by omega : b + 2 ≠ b + 8)]; exact f4) f5 f6) lk_X6_87 mc_X7_valueOf dX6_stands_104 s0 (by decide) rfl rfl (Nat.le_of_ble_eq_true rfl) (fun R2 => ?_)
          rw [am_up_up I, show lastI (evs (opdS (va_up I (b + 8) R) b (o + 3) l k H) (rid k) []) = valS I b (o + 3) l H rid k from valS_up (by omega) (by omega) (by omega) k]
          refine r_if_ne (tgt := 112) dX6_stands_107 (by decide) (fun _ => ?_) (fun hz => absurd hz (show ¬ _ from hz0))
          refine r_iinc (v := nI (k + 1)) dX6_stands_112 rfl (nI_inc k) ?_
          refine r_goto (tgt := 67) dX6_stands_115 (by decide) ?_
          have hgo := ih (R := R2) (k + 1) (by omega)
          rw [rdl, hb, decide_eq_false hz0]
          exact hgo

set_option maxHeartbeats 4000000 in
set_option maxRecDepth 100000 in
theorem w_X6_stands3 (o b l H h v : Nat) (rid : Nat → List Nat) {n : Nat} {kd : mK} {I : mI} {J : mJ} {P : mP} (hS : kS kd P b) (hL : kL kd P l) (hQ : kQ kd P o) (hpb : P o 0 = some b) (hpl : P o 1 = some l) (hbl : b + 9 < l) (hlo : l + 5 < o) (hH8 : H ≤ 8) (hH : I b 0 = nI H) (hh : h < H) (hv : I (o + 3) h = nI v) (hv2 : v < 32) (hrd : ∀ k, k < 8 → bt (I (o + 1) h) k = true → ridOk I b H rid k) : ∀ (x3 : Option Value), (∀ z, x3 = some (.long z) → False) → (∀ z, x3 = some (.double z) → False) → Ru yX6_stands.cls cX6_stands 5 (some .boolean) yX6_stands.name 4 (am_sc (some (.int (bz (rdl (I (o + 1) h) (valS I b (o + 3) l H rid) 8 0)))) (b + 8) n kd I J P) 0 0 57 [some (.ref o), some (.int (nI h)), some (.int (nI v)), x3, none] [] n kd I J P := by
  have hS0 := hS
  obtain ⟨s0, s1, s2, s3, s4, s5, s6, s7, s8, s9, p4, p5, p7, p8, p9, p11, p12, p13, p14⟩ := hS
  have hL0 := hL
  obtain ⟨l0, l1, l2, l3, l4, l5, q0, q1, q3, q5, q6⟩ := hL
  have hQ0 := hQ
  obtain ⟨t0, t1, t2, t3, t4, t5, u2, u3, u6, u7, u8⟩ := hQ
  intro x3 hx3 hx3d
  refine r_aload_n dX6_stands_57 rfl ?_
  refine r_getR dX6_stands_58 fl_X6_19 rfl (by assumption) (by assumption) ?_
  refine r_iload_n dX6_stands_61 rfl ?_
  refine r_iald dX6_stands_62 t1 (nI_in8 8 (by omega) (by decide)) (nI_clamp (by omega)) ?_
  refine r_istore_n dX6_stands_63 (by decide) ?_
  refine r_iconst (v := nI 0) dX6_stands_64 (by decide) ?_
  refine r_istore dX6_stands_65 (by decide) ?_
  have hw := w_X6_stands2 (n := n) (kd := kd) (I := I) (J := J) (P := P) o b l H h v rid hS0 hL0 hQ0 hpb hpl hbl hlo hH8 hH hh hv hv2 hrd 8 (R := I (b + 8)) 0 (by omega)
  rw [am_up_id] at hw
  exact hw

set_option maxHeartbeats 4000000 in
set_option maxRecDepth 100000 in
theorem w_X6_stands1 (o b l H h v : Nat) (rid : Nat → List Nat) {n : Nat} {kd : mK} {I : mI} {J : mJ} {P : mP} (hS : kS kd P b) (hL : kL kd P l) (hQ : kQ kd P o) (hpb : P o 0 = some b) (hpl : P o 1 = some l) (hbl : b + 9 < l) (hlo : l + 5 < o) (hH8 : H ≤ 8) (hH : I b 0 = nI H) (hh : h < H) (hv : I (o + 3) h = nI v) (hv2 : v < 32) (hrd : ∀ k, k < 8 → bt (I (o + 1) h) k = true → ridOk I b H rid k) : ∀ (c i : Nat), i + c = h → Ru yX6_stands.cls cX6_stands 5 (some .boolean) yX6_stands.name 4 (am_sc (some (.int (bz (unl (I (o + 3)) (I (o + 3) h) c i && rdl (I (o + 1) h) (valS I b (o + 3) l H rid) 8 0)))) (b + 8) n kd I J P) 0 0 34 [some (.ref o), some (.int (nI h)), some (.int (nI v)), some (.int (nI i)), none] [] n kd I J P := by
  have hS0 := hS
  obtain ⟨s0, s1, s2, s3, s4, s5, s6, s7, s8, s9, p4, p5, p7, p8, p9, p11, p12, p13, p14⟩ := hS
  have hL0 := hL
  obtain ⟨l0, l1, l2, l3, l4, l5, q0, q1, q3, q5, q6⟩ := hL
  have hQ0 := hQ
  obtain ⟨t0, t1, t2, t3, t4, t5, u2, u3, u6, u7, u8⟩ := hQ
  intro c
  induction c with
  | zero =>
    intro i hi
    have hi : i = h := by omega
    subst hi
    refine r_iload_n dX6_stands_34 rfl ?_
    refine r_iload_n dX6_stands_35 rfl ?_
    refine r_icmp_ge (tgt := 57) dX6_stands_36 (by decide) (fun _ => ?_) (fun hz => absurd (show _ from (by rw [nI_leI (by omega) (by omega)]; omega)) hz)
    have hw := w_X6_stands3 (n := n) (kd := kd) (I := I) (J := J) (P := P) o b l H i v rid hS0 hL0 hQ0 hpb hpl hbl hlo hH8 hH hh hv hv2 hrd (some (.int (nI i))) (fun _ e => nomatch e) (fun _ e => nomatch e)
    exact hw
  | succ c ih =>
    intro i hi
    by_cases hx : I (o + 3) i = I (o + 3) h
    · skip
      refine r_iload_n dX6_stands_34 rfl ?_
      refine r_iload_n dX6_stands_35 rfl ?_
      refine r_icmp_ge (tgt := 57) dX6_stands_36 (by decide) (fun hz => absurd hz (show ¬ _ from (by rw [nI_leI (by omega) (by omega)]; omega))) (fun _ => ?_)
      refine r_aload_n dX6_stands_39 rfl ?_
      refine r_getR dX6_stands_40 fl_X6_33 rfl (by assumption) (by assumption) ?_
      refine r_iload_n dX6_stands_43 rfl ?_
      refine r_iald dX6_stands_44 t3 (nI_in8 8 (by omega) (by decide)) (nI_clamp (by omega)) ?_
      refine r_iload_n dX6_stands_45 rfl ?_
      refine r_icmp_ne (tgt := 51) dX6_stands_46 (by decide) (fun hz => absurd (show _ from (hx.trans hv)) hz) (fun _ => ?_)
      refine r_iconst (v := nI 0) dX6_stands_49 (by decide) ?_
      refine r_zret rfl dX6_stands_50 (by first | exact Or.inl rfl | exact Or.inr rfl | assumption) ?_
      exact ⟨I (b + 8), by rw [unl, decide_eq_true hx]; rfl, rfl, rfl, (am_up_id _ _).symm, rfl, rfl⟩
    · skip
      refine r_iload_n dX6_stands_34 rfl ?_
      refine r_iload_n dX6_stands_35 rfl ?_
      refine r_icmp_ge (tgt := 57) dX6_stands_36 (by decide) (fun hz => absurd hz (show ¬ _ from (by rw [nI_leI (by omega) (by omega)]; omega))) (fun _ => ?_)
      refine r_aload_n dX6_stands_39 rfl ?_
      refine r_getR dX6_stands_40 fl_X6_33 rfl (by assumption) (by assumption) ?_
      refine r_iload_n dX6_stands_43 rfl ?_
      refine r_iald dX6_stands_44 t3 (nI_in8 8 (by omega) (by decide)) (nI_clamp (by omega)) ?_
      refine r_iload_n dX6_stands_45 rfl ?_
      refine r_icmp_ne (tgt := 51) dX6_stands_46 (by decide) (fun _ => ?_) (fun hz => absurd hz (show ¬ _ from (fun e => hx (e.trans hv.symm))))
      refine r_iinc (v := nI (i + 1)) dX6_stands_51 rfl (nI_inc i) ?_
      refine r_goto (tgt := 34) dX6_stands_54 (by decide) ?_
      have hgo := ih (i + 1) (by omega)
      rw [unl, decide_eq_false hx]
      exact hgo

set_option maxHeartbeats 4000000 in
set_option maxRecDepth 100000 in
theorem c_X6_stands (o b l H h v : Nat) (rid : Nat → List Nat) {n : Nat} {kd : mK} {I : mI} {J : mJ} {P : mP} (hS : kS kd P b) (hL : kL kd P l) (hQ : kQ kd P o) (hpb : P o 0 = some b) (hpl : P o 1 = some l) (hbl : b + 9 < l) (hlo : l + 5 < o) (hH8 : H ≤ 8) (hH : I b 0 = nI H) (hh : h < H) (hv : I (o + 3) h = nI v) (hv2 : v < 32) (hrd : ∀ k, k < 8 → bt (I (o + 1) h) k = true → ridOk I b H rid k) : Ct yX6_stands cX6_stands 5 (some .boolean) 4 0 0 [.ref o, .int (nI h)] n kd I J P (am_sc (some (.int (bz (stS I o b l H rid h v)))) (b + 8) n kd I J P) := by
  have hS0 := hS
  obtain ⟨s0, s1, s2, s3, s4, s5, s6, s7, s8, s9, p4, p5, p7, p8, p9, p11, p12, p13, p14⟩ := hS
  have hL0 := hL
  obtain ⟨l0, l1, l2, l3, l4, l5, q0, q1, q3, q5, q6⟩ := hL
  have hQ0 := hQ
  obtain ⟨t0, t1, t2, t3, t4, t5, u2, u3, u6, u7, u8⟩ := hQ
  refine ct_of 3 (by decide +kernel) (Nat.le_of_ble_eq_true rfl) rfl ?_
  cases ha : bt (I (o + 2) h) v with
  | false =>
    · skip
      refine r_aload_n dX6_stands_0 rfl ?_
      refine r_getR dX6_stands_1 fl_X6_33 rfl (by assumption) (by assumption) ?_
      refine r_iload_n dX6_stands_4 rfl ?_
      refine r_iald dX6_stands_5 t3 (nI_in8 8 (by omega) (by decide)) (nI_clamp (by omega)) ?_
      rw [hv]
      refine r_istore_n dX6_stands_6 (by decide) ?_
      refine r_aload_n dX6_stands_7 rfl ?_
      refine r_getR dX6_stands_8 fl_X6_23 rfl (by assumption) (by assumption) ?_
      refine r_iload_n dX6_stands_11 rfl ?_
      refine r_iald dX6_stands_12 t2 (nI_in8 8 (by omega) (by decide)) (nI_clamp (by omega)) ?_
      refine r_iload_n dX6_stands_13 rfl ?_
      refine r_ishr dX6_stands_14 ?_
      refine r_iconst (v := nI 1) dX6_stands_15 (by decide) ?_
      refine r_iand dX6_stands_16 ?_
      refine r_if_ne (tgt := 22) dX6_stands_17 (by decide) (fun hz => absurd (show _ from (by rw [b_ask0 _ hv2]; exact ha)) hz) (fun _ => ?_)
      refine r_iconst (v := nI 0) dX6_stands_20 (by decide) ?_
      refine r_zret rfl dX6_stands_21 (by first | exact Or.inl rfl | exact Or.inr rfl | assumption) ?_
      exact ⟨I (b + 8), by rw [stS, ha]; rfl, rfl, rfl, (am_up_id _ _).symm, rfl, rfl⟩
  | true =>
    by_cases hu : I b 2 = 0
    · skip
      refine r_aload_n dX6_stands_0 rfl ?_
      refine r_getR dX6_stands_1 fl_X6_33 rfl (by assumption) (by assumption) ?_
      refine r_iload_n dX6_stands_4 rfl ?_
      refine r_iald dX6_stands_5 t3 (nI_in8 8 (by omega) (by decide)) (nI_clamp (by omega)) ?_
      rw [hv]
      refine r_istore_n dX6_stands_6 (by decide) ?_
      refine r_aload_n dX6_stands_7 rfl ?_
      refine r_getR dX6_stands_8 fl_X6_23 rfl (by assumption) (by assumption) ?_
      refine r_iload_n dX6_stands_11 rfl ?_
      refine r_iald dX6_stands_12 t2 (nI_in8 8 (by omega) (by decide)) (nI_clamp (by omega)) ?_
      refine r_iload_n dX6_stands_13 rfl ?_
      refine r_ishr dX6_stands_14 ?_
      refine r_iconst (v := nI 1) dX6_stands_15 (by decide) ?_
      refine r_iand dX6_stands_16 ?_
      refine r_if_ne (tgt := 22) dX6_stands_17 (by decide) (fun _ => ?_) (fun hz => absurd hz (show ¬ _ from (by rw [b_ask0 _ hv2, ha]; decide)))
      refine r_aload_n dX6_stands_22 rfl ?_
      refine r_getR dX6_stands_23 fl_X6_9 rfl (by assumption) (by assumption) ?_
      refine r_getI dX6_stands_26 fl_X6_83 rfl (by assumption) ?_
      refine r_if_eq (tgt := 57) dX6_stands_29 (by decide) (fun _ => ?_) (fun hz => absurd (show _ from hu) hz)
      have hw := w_X6_stands3 (n := n) (kd := kd) (I := I) (J := J) (P := P) o b l H h v rid hS0 hL0 hQ0 hpb hpl hbl hlo hH8 hH hh hv hv2 hrd none (fun _ e => nomatch e) (fun _ e => nomatch e)
      rw [stS, ha, decide_eq_true hu]
      exact hw
    · skip
      refine r_aload_n dX6_stands_0 rfl ?_
      refine r_getR dX6_stands_1 fl_X6_33 rfl (by assumption) (by assumption) ?_
      refine r_iload_n dX6_stands_4 rfl ?_
      refine r_iald dX6_stands_5 t3 (nI_in8 8 (by omega) (by decide)) (nI_clamp (by omega)) ?_
      rw [hv]
      refine r_istore_n dX6_stands_6 (by decide) ?_
      refine r_aload_n dX6_stands_7 rfl ?_
      refine r_getR dX6_stands_8 fl_X6_23 rfl (by assumption) (by assumption) ?_
      refine r_iload_n dX6_stands_11 rfl ?_
      refine r_iald dX6_stands_12 t2 (nI_in8 8 (by omega) (by decide)) (nI_clamp (by omega)) ?_
      refine r_iload_n dX6_stands_13 rfl ?_
      refine r_ishr dX6_stands_14 ?_
      refine r_iconst (v := nI 1) dX6_stands_15 (by decide) ?_
      refine r_iand dX6_stands_16 ?_
      refine r_if_ne (tgt := 22) dX6_stands_17 (by decide) (fun _ => ?_) (fun hz => absurd hz (show ¬ _ from (by rw [b_ask0 _ hv2, ha]; decide)))
      refine r_aload_n dX6_stands_22 rfl ?_
      refine r_getR dX6_stands_23 fl_X6_9 rfl (by assumption) (by assumption) ?_
      refine r_getI dX6_stands_26 fl_X6_83 rfl (by assumption) ?_
      refine r_if_eq (tgt := 57) dX6_stands_29 (by decide) (fun hz => absurd hz (show ¬ _ from hu)) (fun _ => ?_)
      refine r_iconst (v := nI 0) dX6_stands_32 (by decide) ?_
      refine r_istore_n dX6_stands_33 (by decide) ?_
      have hw := w_X6_stands1 (n := n) (kd := kd) (I := I) (J := J) (P := P) o b l H h v rid hS0 hL0 hQ0 hpb hpl hbl hlo hH8 hH hh hv hv2 hrd h 0 (by omega)
      rw [stS, ha, decide_eq_false hu]
      exact hw


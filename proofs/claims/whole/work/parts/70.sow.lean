/-! A STREET SOWN: its text written and read -/
def kRd (kd : mK) (P : mP) (r : Nat) : Prop := kd r = some (0, 5) ∧ kd (r + 2) = some (1, 501) ∧ kd (r + 3) = some (1, 501) ∧ kd (r + 4) = some (1, 501) ∧ P r 2 = some (r + 2) ∧ P r 3 = some (r + 3) ∧ P r 4 = some (r + 4)
/-- the class's cells at any time: b, s the street that is and the spare one, f, l the life that is and the trial -/
def kX (kd : mK) (P : mP) (o b s f l : Nat) : Prop := (kd o = some (0, 9) ∧ kd (o + 1) = some (2, 500) ∧ kd (o + 2) = some (1, 3)) ∧ (kS kd P (o + 3) ∧ kS kd P (o + 13)) ∧ (kL kd P (o + 23) ∧ kL kd P (o + 29) ∧ kL kd P (o + 35)) ∧ (kQ kd P (o + 41) ∧ kA kd P (o + 47) ∧ kG kd P (o + 56) ∧ kW kd P (o + 58) ∧ kRd kd P (o + 61) ∧ kD kd P (o + 66) ∧ kPg kd P (o + 67)) ∧ (P o 0 = some (o + 1) ∧ P o 3 = some (o + 2) ∧ P o 8 = some (o + 35) ∧ P o 10 = some (o + 41) ∧ P o 12 = some (o + 47) ∧ P o 13 = some (o + 56) ∧ P o 14 = some (o + 58) ∧ P o 15 = some (o + 61) ∧ P o 16 = some (o + 66) ∧ P o 17 = some (o + 67)) ∧ (P o 4 = some b ∧ P o 5 = some s ∧ P o 6 = some f ∧ P o 7 = some l) ∧ ((b = o + 3 ∧ s = o + 13) ∨ (b = o + 13 ∧ s = o + 3)) ∧ ((f = o + 23 ∧ l = o + 29) ∨ (f = o + 29 ∧ l = o + 23)) ∧ o < 990000
def swF (M : Nat) : Nat → Nat → Int32 → List Int32
  | 0, _, _ => []
  | k + 1, h, x => (sdH x h M).1 ++ swF M k (h + 1) (sdH x h M).2
def swS (M : Nat) : Nat → Nat → Int32 → Int32
  | 0, _, x => x
  | k + 1, h, x => swS M k (h + 1) (sdH x h M).2
def swT (M : Nat) (u : Int32) (H : Nat) (x : Int32) : List Int32 := hdB M u ++ swF M H 0 x
def rdT (n : Nat) (kd : mK) (I : mI) (J : mJ) (P : mP) (r s l x len : Nat) (n' : Nat) (kd' : mK) (I' : mI) (J' : mJ) (P' : mP) : Prop := n' = n ∧ kd' = kd ∧ J' = J ∧ P' = P ∧ ∃ I0 : mI, I' = rI r s l (tkT len (I x)) (rdR I s l x len) I0 ∧ (∀ a, (a < s ∨ (s + 7 < a ∧ a < l) ∨ (l + 2 < a ∧ a < r) ∨ r + 4 < a) → I0 a = I a) ∧ I0 l = va_up (va_up (va_up (I l) 2 (nI 0)) 4 (nI 0)) 7 (nI 0)
def byF (bs : List Int32) : Prop := ∀ b ∈ bs, fits .byte (.int b) = true
theorem byF_app {a b : List Int32} (ha : byF a) (hb : byF b) : byF (a ++ b) := fun x h => (List.mem_append.mp h).elim (ha x) (hb x)
theorem fit_small : ∀ k, k < 128 → fits .byte (.int (nI k)) = true := by decide +kernel
theorem byF_sB : ∀ i, i < 21 → ∀ b ∈ sB.getD i [], fits .byte (.int b) = true := by decide +kernel
theorem byF_dg {k : Nat} (hk : k < 100) : byF (dg k) := by
  unfold dg byF
  split
  · intro b h
    simp at h
    rcases h with rfl | rfl
    · exact fit_small _ (by omega)
    · exact fit_small _ (by omega)
  · intro b h
    simp at h
    subst h
    exact fit_small _ (by omega)
theorem byF_1 {k : Nat} (hk : k < 128) : byF [nI k] := fun b h => by simp at h; subst h; exact fit_small _ hk
theorem byF_hd {M : Nat} (hM : M < 100) (u : Int32) : byF (hdB M u) := by
  unfold hdB
  refine byF_app (byF_app (byF_sB 13 (by decide)) (byF_dg hM)) ?_
  split
  · exact byF_sB 15 (by decide)
  · exact byF_sB 14 (by decide)
theorem byF_sd (x : Int32) (h M : Nat) (h8 : h < 8) (hM0 : 0 < M) (hM : M ≤ 20) : byF (sdH x h M).1 := by
  have a1 := Nat.mod_lt (dv (lcg (lcg x))) hM0
  have a3 := Nat.mod_lt (dv (lcg (lcg (lcg x)))) (show 0 < 4 by omega)
  unfold sdH
  split
  · exact byF_app (byF_sB 2 (by decide)) (byF_app (byF_sB 18 (by decide)) (byF_app (byF_dg (by omega)) (byF_1 (by decide))))
  split
  · rename_i e2
    have a2 := Nat.mod_lt (dv (lcg (lcg x))) e2.2
    exact byF_app (byF_sB 2 (by decide)) (byF_app (byF_sB 19 (by decide)) (byF_app (byF_dg (by omega)) (byF_app (byF_1 (by decide)) (byF_app (byF_dg (by omega)) (byF_1 (by decide))))))
  split
  · rename_i e2
    have a2 := Nat.mod_lt (dv (lcg (lcg x))) e2.2
    exact byF_app (byF_sB 2 (by decide)) (byF_app (byF_sB 20 (by decide)) (byF_app (byF_dg (by omega)) (byF_1 (by decide))))
  · exact byF_app (byF_sB 2 (by decide)) (byF_1 (by decide))
theorem sd_len (x : Int32) (h M : Nat) : (sdH x h M).1.length ≤ 26 := by
  have l1 := dg_len (1 + dv (lcg (lcg x)) % M)
  have l2 := dg_len (dv (lcg (lcg x)) % h)
  have l3 := dg_len (dv (lcg (lcg (lcg x))) % 4)
  have b2 : (sB.getD 2 []).length = 5 := by decide
  have b18 : (sB.getD 18 []).length = 11 := by decide
  have b19 : (sB.getD 19 []).length = 14 := by decide
  have b20 : (sB.getD 20 []).length = 18 := by decide
  unfold sdH
  split
  · simp only [List.length_append, List.length_cons, List.length_nil, b2, b18]; omega
  split
  · simp only [List.length_append, List.length_cons, List.length_nil, b2, b19]; omega
  split
  · simp only [List.length_append, List.length_cons, List.length_nil, b2, b20]; omega
  · simp only [List.length_append, List.length_cons, List.length_nil, b2]; omega
theorem hd_len (M : Nat) (u : Int32) : (hdB M u).length ≤ 15 := by
  have l1 := dg_len M
  have b13 : (sB.getD 13 []).length = 5 := by decide
  have b14 : (sB.getD 14 []).length = 8 := by decide
  have b15 : (sB.getD 15 []).length = 1 := by decide
  unfold hdB
  split
  · simp only [List.length_append, b13, b15]; omega
  · simp only [List.length_append, b13, b14]; omega
theorem byF_sw (M : Nat) (hM0 : 0 < M) (hM : M ≤ 20) : ∀ (k h : Nat) (x : Int32), h + k ≤ 8 → byF (swF M k h x) ∧ (swF M k h x).length ≤ 26 * k
  | 0, h, x, _ => ⟨fun b hb => (nomatch hb), by simp [swF]⟩
  | k + 1, h, x, hk => by
    have ih := byF_sw M hM0 hM k (h + 1) (sdH x h M).2 (by omega)
    have l1 := sd_len x h M
    unfold swF
    exact ⟨byF_app (byF_sd x h M (by omega) hM0 hM) ih.1, by rw [List.length_append]; omega⟩
theorem pgI_nil (p : Nat) (I : mI) : va_up I p (va_up (I p) 1 (nI 0)) = pgI p [] I := by
  funext a
  by_cases h : a = p
  · subst h
    rw [am_up_s]
    funext j
    by_cases hj : j = 1
    · subst hj; rw [am_up_s]; simp [pgI]
    · rw [am_up_n _ _ hj]; simp [pgI, hj]
  · rw [am_up_n _ _ h]
    by_cases h2 : a = p + 1
    · subst h2; rw [pgI_b]; simp
    · rw [pgI_ne _ _ h h2]
theorem pgI_out {p a : Nat} (bs : List Int32) (I : mI) (W : Nat → Int32) (h : a ≠ p) (h2 : a ≠ p + 1) : va_up (pgI p bs I) a W = pgI p bs (va_up I a W) := by
  funext c
  by_cases hc : c = a
  · subst hc; rw [am_up_s, pgI_ne _ _ h h2, am_up_s]
  · rw [am_up_n _ _ hc]
    unfold pgI
    rw [am_up_n _ _ (Ne.symm h), am_up_n _ _ (Ne.symm h2), am_up_n _ _ hc]
theorem dI_out {d a : Nat} (x : Int32) (I : mI) (W : Nat → Int32) (h : a ≠ d) : va_up (dI d x I) a W = dI d x (va_up I a W) := by
  unfold dI
  rw [am_up_n _ _ (Ne.symm h)]
  exact am_up_cm _ _ _ (Ne.symm h)
theorem pgI_fit {p : Nat} {bs : List Int32} {I : mI} (h : byF bs) : ∀ i, i < bs.length → fits .byte (.int (pgI p bs I (p + 1) i)) = true := fun i hi => by
  rw [pgI_b]
  show fits .byte (.int (bs.getD i _)) = true
  rw [List.getD, List.getElem?_eq_getElem hi]
  exact h _ (List.getElem_mem hi)
theorem dX9_sow_0 : decode cX9_sow 0 = .ok (.aload_n 0, 1) := by decide +kernel
theorem dX9_sow_1 : decode cX9_sow 1 = .ok (.getfield 92, 3) := by decide +kernel
theorem dX9_sow_4 : decode cX9_sow 4 = .ok (.iload_n 1, 1) := by decide +kernel
theorem dX9_sow_5 : decode cX9_sow 5 = .ok (.invokevirtual 268, 3) := by decide +kernel
theorem dX9_sow_8 : decode cX9_sow 8 = .ok (.aload_n 0, 1) := by decide +kernel
theorem dX9_sow_9 : decode cX9_sow 9 = .ok (.getfield 99, 3) := by decide +kernel
theorem dX9_sow_12 : decode cX9_sow 12 = .ok (.iconst 0, 1) := by decide +kernel
theorem dX9_sow_13 : decode cX9_sow 13 = .ok (.putfield 347, 3) := by decide +kernel
theorem dX9_sow_16 : decode cX9_sow 16 = .ok (.aload_n 0, 1) := by decide +kernel
theorem dX9_sow_17 : decode cX9_sow 17 = .ok (.iconst 0, 1) := by decide +kernel
theorem dX9_sow_18 : decode cX9_sow 18 = .ok (.putfield 103, 3) := by decide +kernel
theorem dX9_sow_21 : decode cX9_sow 21 = .ok (.aload_n 0, 1) := by decide +kernel
theorem dX9_sow_22 : decode cX9_sow 22 = .ok (.getfield 99, 3) := by decide +kernel
theorem dX9_sow_25 : decode cX9_sow 25 = .ok (.aload_n 0, 1) := by decide +kernel
theorem dX9_sow_26 : decode cX9_sow 26 = .ok (.getfield 27, 3) := by decide +kernel
theorem dX9_sow_29 : decode cX9_sow 29 = .ok (.invokevirtual 376, 3) := by decide +kernel
theorem dX9_sow_32 : decode cX9_sow 32 = .ok (.iconst 0, 1) := by decide +kernel
theorem dX9_sow_33 : decode cX9_sow 33 = .ok (.istore_n 3, 1) := by decide +kernel
theorem dX9_sow_34 : decode cX9_sow 34 = .ok (.iload_n 3, 1) := by decide +kernel
theorem dX9_sow_35 : decode cX9_sow 35 = .ok (.iload_n 2, 1) := by decide +kernel
theorem dX9_sow_36 : decode cX9_sow 36 = .ok (.if_icmp .ge 28, 3) := by decide +kernel
theorem dX9_sow_39 : decode cX9_sow 39 = .ok (.aload_n 0, 1) := by decide +kernel
theorem dX9_sow_40 : decode cX9_sow 40 = .ok (.getfield 99, 3) := by decide +kernel
theorem dX9_sow_43 : decode cX9_sow 43 = .ok (.aload_n 0, 1) := by decide +kernel
theorem dX9_sow_44 : decode cX9_sow 44 = .ok (.getfield 92, 3) := by decide +kernel
theorem dX9_sow_47 : decode cX9_sow 47 = .ok (.iload_n 3, 1) := by decide +kernel
theorem dX9_sow_48 : decode cX9_sow 48 = .ok (.aload_n 0, 1) := by decide +kernel
theorem dX9_sow_49 : decode cX9_sow 49 = .ok (.getfield 27, 3) := by decide +kernel
theorem dX9_sow_52 : decode cX9_sow 52 = .ok (.getfield 127, 3) := by decide +kernel
theorem dX9_sow_55 : decode cX9_sow 55 = .ok (.invokevirtual 379, 3) := by decide +kernel
theorem dX9_sow_58 : decode cX9_sow 58 = .ok (.iinc 3 1, 3) := by decide +kernel
theorem dX9_sow_61 : decode cX9_sow 61 = .ok (.goto (-27), 3) := by decide +kernel
theorem dX9_sow_64 : decode cX9_sow 64 = .ok (.aload_n 0, 1) := by decide +kernel
theorem dX9_sow_65 : decode cX9_sow 65 = .ok (.getfield 85, 3) := by decide +kernel
theorem dX9_sow_68 : decode cX9_sow 68 = .ok (.aload_n 0, 1) := by decide +kernel
theorem dX9_sow_69 : decode cX9_sow 69 = .ok (.getfield 99, 3) := by decide +kernel
theorem dX9_sow_72 : decode cX9_sow 72 = .ok (.getfield 348, 3) := by decide +kernel
theorem dX9_sow_75 : decode cX9_sow 75 = .ok (.aload_n 0, 1) := by decide +kernel
theorem dX9_sow_76 : decode cX9_sow 76 = .ok (.getfield 99, 3) := by decide +kernel
theorem dX9_sow_79 : decode cX9_sow 79 = .ok (.getfield 347, 3) := by decide +kernel
theorem dX9_sow_82 : decode cX9_sow 82 = .ok (.aload_n 0, 1) := by decide +kernel
theorem dX9_sow_83 : decode cX9_sow 83 = .ok (.getfield 31, 3) := by decide +kernel
theorem dX9_sow_86 : decode cX9_sow 86 = .ok (.aload_n 0, 1) := by decide +kernel
theorem dX9_sow_87 : decode cX9_sow 87 = .ok (.getfield 41, 3) := by decide +kernel
theorem dX9_sow_90 : decode cX9_sow 90 = .ok (.invokevirtual 113, 3) := by decide +kernel
theorem dX9_sow_93 : decode cX9_sow 93 = .ok (.pop, 1) := by decide +kernel
theorem dX9_sow_94 : decode cX9_sow 94 = .ok (.return_, 1) := by decide +kernel

set_option maxHeartbeats 4000000 in
set_option maxRecDepth 100000 in
theorem w_X9_sow (o b s f l M H : Nat) (x0 : Int32) {n : Nat} {kd : mK} {I : mI} {J : mJ} {P : mP} (hX : kX kd P o b s f l) (hM : I b 1 = nI M) (hM0 : 0 < M) (hM2 : M ≤ 20) (hH : H ≤ 8) : ∀ (k h : Nat) (x : Int32) (bs : List Int32), h + k = H → byF bs → bs.length + 26 * k ≤ 500 → Ru yX9_sow.cls cX9_sow 4 none yX9_sow.name 62 (fun z n' kd' I' J' P' => z = .inl none ∧ rdT n kd (pgI (o + 67) (bs ++ swF M k h x) (dI (o + 66) (swS M k h x) (I))) J (rdQ P (o + 61) (o + 68) s l) (o + 61) s l (o + 68) (bs ++ swF M k h x).length n' kd' I' J' P') 0 0 34 [some (.ref o), some (.int x0), some (.int (nI H)), some (.int (nI h))] [] n kd (pgI (o + 67) bs (dI (o + 66) x I)) J P := by
  have hX0 := hX
  obtain ⟨⟨c0, c1, c2⟩, ⟨s3, s13⟩, ⟨l23, l29, l35⟩, ⟨q41, a47, g56, w58, r61, d66, p67⟩, ⟨e0, e3, e8, e10, e12, e13, e14, e15, e16, e17⟩, ⟨e4, e5, e6, e7⟩, hbs, hfl, ho⟩ := hX
  obtain ⟨k0, k2, k3, k4, x2, x3, x4⟩ := r61
  have hb7 : kd b = some (0, 7) := by rcases hbs with h | h <;> rw [h.1]; exact s3.1; exact s13.1
  have hsS : kS kd P s := by rcases hbs with h | h <;> rw [h.2]; exact s13; exact s3
  have hlL : kL kd P l := by rcases hfl with h | h <;> rw [h.2]; exact l29; exact l23
  intro k
  induction k with
  | zero =>
    intro h x bs hh hby hl
    unfold swF swS
    rw [List.append_nil]
    refine r_iload_n dX9_sow_34 rfl ?_
    refine r_iload_n dX9_sow_35 rfl ?_
    refine r_icmp_ge (tgt := 64) dX9_sow_36 (by decide) (fun _ => ?_) (fun hz => absurd (show _ from (by rw [nI_leI (by omega) (by omega)]; omega)) hz)
    refine r_aload_n dX9_sow_64 rfl ?_
    refine r_getR dX9_sow_65 fl_X9_85 rfl c0 e15 ?_
    refine r_aload_n dX9_sow_68 rfl ?_
    refine r_getR dX9_sow_69 fl_X9_99 rfl c0 e17 ?_
    refine r_getR dX9_sow_72 fl_X9_348 rfl p67.1 p67.2.2 ?_
    refine r_aload_n dX9_sow_75 rfl ?_
    refine r_getR dX9_sow_76 fl_X9_99 rfl c0 e17 ?_
    refine r_getI dX9_sow_79 fl_X9_347 rfl p67.1 ?_
    rw [pgI_1]
    refine r_aload_n dX9_sow_82 rfl ?_
    refine r_getR dX9_sow_83 fl_X9_31 rfl c0 e5 ?_
    refine r_aload_n dX9_sow_86 rfl ?_
    refine r_getR dX9_sow_87 fl_X9_41 rfl c0 e7 ?_
    refine r_virt (c_X5_read (o + 61) s l (o + 68) 1200 bs.length bs.length k0 k2 k3 k4 x2 x3 x4 hsS hlL (by omega) (by omega) p67.2.1 (by omega) (by decide) (by omega) (by omega) (pgI_fit hby) (by omega) (by omega)) lk_X9_113 mc_X5_read dX9_sow_90 k0 (by decide) rfl rfl (Nat.le_of_ble_eq_true rfl) (Nat.le_of_eq (Nat.zero_add _)) (Nat.le_of_eq (Nat.zero_add _)) (fun _ _ _ _ _ _ h => nomatch h.1) ?_
    rintro v n' kd' I' J' P' ⟨h0, hr⟩
    cases h0
    simp only [Option.toList, List.cons_append, List.nil_append]
    refine r_pop dX9_sow_93 rfl ?_
    refine r_vret rfl dX9_sow_94 ?_
    exact ⟨rfl, hr⟩
  | succ k ih =>
    intro h x bs hh hby hl
    unfold swF swS
    have l26 := sd_len x h M
    have hn := ih (h + 1) (sdH x h M).2 (bs ++ (sdH x h M).1) (by omega) (byF_app hby (byF_sd x h M (by omega) hM0 hM2)) (by rw [List.length_append]; omega)
    rw [List.append_assoc] at hn
    refine r_iload_n dX9_sow_34 rfl ?_
    refine r_iload_n dX9_sow_35 rfl ?_
    refine r_icmp_ge (tgt := 64) dX9_sow_36 (by decide) (fun hz => absurd hz (show ¬ _ from (by rw [nI_leI (by omega) (by omega)]; omega))) (fun _ => ?_)
    refine r_aload_n dX9_sow_39 rfl ?_
    refine r_getR dX9_sow_40 fl_X9_99 rfl c0 e17 ?_
    refine r_aload_n dX9_sow_43 rfl ?_
    refine r_getR dX9_sow_44 fl_X9_92 rfl c0 e16 ?_
    refine r_iload_n dX9_sow_47 rfl ?_
    refine r_aload_n dX9_sow_48 rfl ?_
    refine r_getR dX9_sow_49 fl_X9_27 rfl c0 e4 ?_
    refine r_getI dX9_sow_52 fl_X9_127 rfl hb7 ?_
    rw [pgI_ne _ _ (by omega) (by omega), dI_ne _ _ (by omega), hM]
    refine r_virtV (c_X4_writeSeededHouse (o + 67) (o + 66) h M x bs p67 d66 (by omega) (by omega) (by omega) hM0 hM2 (by omega)) lk_X9_379 mc_X4_writeSeededHouse dX9_sow_55 p67.1 (by decide) rfl rfl (Nat.le_of_ble_eq_true rfl) ?_
    refine r_iinc (v := nI (h + 1)) dX9_sow_58 rfl (nI_inc h) ?_
    refine r_goto (tgt := 34) dX9_sow_61 (by decide) ?_
    exact hn

set_option maxHeartbeats 4000000 in
set_option maxRecDepth 100000 in
theorem c_X9_sow (o b s f l M H : Nat) (x u : Int32) {n : Nat} {kd : mK} {I : mI} {J : mJ} {P : mP} (hX : kX kd P o b s f l) (hM : I b 1 = nI M) (hM0 : 0 < M) (hM2 : M ≤ 20) (hH : H ≤ 8) (hu : I b 2 = u) : Ct yX9_sow cX9_sow 4 none 62 0 0 [.ref o, .int x, .int (nI H)] n kd I J P (fun z n' kd' I' J' P' => z = .inl none ∧ rdT n kd (pgI (o + 67) (swT M u H x) (dI (o + 66) (swS M H 0 x) (va_up I o (va_up (I o) 18 (nI 0))))) J (rdQ P (o + 61) (o + 68) s l) (o + 61) s l (o + 68) (swT M u H x).length n' kd' I' J' P') := by
  have hX0 := hX
  obtain ⟨⟨c0, c1, c2⟩, ⟨s3, s13⟩, ⟨l23, l29, l35⟩, ⟨q41, a47, g56, w58, r61, d66, p67⟩, ⟨e0, e3, e8, e10, e12, e13, e14, e15, e16, e17⟩, ⟨e4, e5, e6, e7⟩, hbs, hfl, ho⟩ := hX
  obtain ⟨k0, k2, k3, k4, x2, x3, x4⟩ := r61
  have hb7 : kd b = some (0, 7) := by rcases hbs with h | h <;> rw [h.1]; exact s3.1; exact s13.1
  have hsS : kS kd P s := by rcases hbs with h | h <;> rw [h.2]; exact s13; exact s3
  have hlL : kL kd P l := by rcases hfl with h | h <;> rw [h.2]; exact l29; exact l23
  refine ct_of 1 (by decide +kernel) (Nat.le_of_ble_eq_true rfl) rfl ?_
  refine r_aload_n dX9_sow_0 rfl ?_
  refine r_getR dX9_sow_1 fl_X9_92 rfl c0 e16 ?_
  refine r_iload_n dX9_sow_4 rfl ?_
  refine r_virtV (c_X1_start (o + 66) x d66) lk_X9_268 mc_X1_start dX9_sow_5 d66 (by decide) rfl rfl (Nat.le_of_ble_eq_true rfl) ?_
  change RuZ _ _ _ _ _ _ _ _ _ _ _ _ _ _ _ (dI (o + 66) x I) _ _
  refine r_aload_n dX9_sow_8 rfl ?_
  refine r_getR dX9_sow_9 fl_X9_99 rfl c0 e17 ?_
  refine r_iconst (v := nI 0) dX9_sow_12 (by decide) ?_
  refine r_putI dX9_sow_13 fl_X9_347 rfl rfl p67.1 ?_
  rw [pgI_nil]
  refine r_aload_n dX9_sow_16 rfl ?_
  refine r_iconst (v := nI 0) dX9_sow_17 (by decide) ?_
  refine r_putZ dX9_sow_18 fl_X9_103 rfl rfl (Or.inl rfl) c0 ?_
  rw [pgI_ne _ _ (by omega) (by omega), dI_ne _ _ (by omega), pgI_out _ _ _ (by omega) (by omega), dI_out _ _ _ (by omega)]
  refine r_aload_n dX9_sow_21 rfl ?_
  refine r_getR dX9_sow_22 fl_X9_99 rfl c0 e17 ?_
  refine r_aload_n dX9_sow_25 rfl ?_
  refine r_getR dX9_sow_26 fl_X9_27 rfl c0 e4 ?_
  refine r_virtV (c_X4_writeHead (o + 67) b M u [] p67 hb7 (by omega) (by omega) (by rw [dI_ne _ _ (by omega), am_up_n _ _ (by omega)]; exact hM) (by omega) (by rw [dI_ne _ _ (by omega), am_up_n _ _ (by omega)]; exact hu) (by simp)) lk_X9_376 mc_X4_writeHead dX9_sow_29 p67.1 (by decide) rfl rfl (Nat.le_of_ble_eq_true rfl) ?_
  rw [List.nil_append]
  refine r_iconst (v := nI 0) dX9_sow_32 (by decide) ?_
  refine r_istore_n dX9_sow_33 (by decide) ?_
  have hl := hd_len M u
  exact w_X9_sow o b s f l M H x hX0 (by rw [am_up_n _ _ (by omega)]; exact hM) hM0 hM2 hH H 0 x (hdB M u) (by omega) (byF_hd (by omega) u) (by omega)


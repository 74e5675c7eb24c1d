/-! ONE CALL ON ANY STATE: both sides answer alike, and what is then is the same again -/
def Tr (o : Nat) (C : Nat → mK → mI → mJ → mP → Prop) : Prop := ∀ n kd I J P I' J', (∀ a, a < o + 69 → I' a = I a ∧ J' a = J a) → C n kd I J P → C n kd I' J' P
def okQ (t : Nat) (T : Nat → Nat) (H M : Nat) (cs : Nat → List Nat) (tx : Nat → List Int32) (e : Lf) : Prop := okZ t T H M cs e ∧ okX H cs tx
/-- what is, on both sides -/
def Nx (o n : Nat) (kd : mK) (I : mI) (J : mJ) (P : mP) : Prop := ∃ t T fp rr H M un cs tx e im wk, okQ t T H M cs tx e ∧ CX o t T fp rr H M un cs tx e im wk n kd I J P ∧ RR (o + 69) kd I P t T fp rr H M un cs tx e im wk
theorem Tr.cx {o t : Nat} {T : Nat → Nat} {fp : Int32} {rr : Nat → Int32} {H M : Nat} {un : Bool} {cs : Nat → List Nat} {tx : Nat → List Int32} {e : Lf} {im : Option Lf} {wk : Option (List Nat)} : Tr o (CX o t T fp rr H M un cs tx e im wk) := fun n kd I J P I' J' hf ⟨b, s, f, l, hC⟩ => ⟨b, s, f, l, hC.fr (Nat.le_refl _) (fun _ _ _ => rfl) (fun a a1 a2 => ⟨rfl, (hf a (by omega)).1, (hf a (by omega)).2, rfl⟩)⟩
def rsl : Nat → Int32 → String → String → (Option Value ⊕ String)
  | 0, v, _, _ => .inl (some (.int v))
  | 1, _, E, _ => .inr E
  | _, _, _, E => .inr E
def sameM (m : Nat) (kd kd1 : mK) (I I1 : mI) (P P1 : mP) : Prop := ∀ a, m ≤ a → a ≤ m + 55 → kd1 a = kd a ∧ I1 a = I a ∧ P1 a = P a
def Pr (o n : Nat) (kd : mK) (I : mI) (J : mJ) (P : mP) (yc : MethodName) (cc : ByteArray) (nL : Nat) (rc : Option FieldType) (yr : MethodName) (cr : ByteArray) (nLr : Nat) (rt : Option FieldType) (args : List Value) (K9 : Nat) (E1 E2 : String) (Vp : Int32 → Prop) : Prop := ∃ (k d mc ms d3 : Nat) (v w : Int32) (C : Nat → mK → mI → mJ → mP → Prop) (D : mK → mI → mP → Prop), (k ≤ K9 ∧ d ≤ 63 ∧ mc ≤ 1 ∧ ms ≤ 10240 ∧ d3 ≤ 63 ∧ (k = 0 → v = w) ∧ (k = 0 → Vp v)) ∧ Tr o C ∧ Ct yc cc nL rc d mc ms (.ref o :: args) n kd I J P (pK o n kd I J P (rsl k v E1 E2) C) ∧ (∀ n1 kd1 I1 J1 P1, sameM (o + 69) kd kd1 I I1 P P1 → Ct yr cr nLr rt d3 0 0 (.ref (o + 69) :: args) n1 kd1 I1 J1 P1 (pQ (o + 69) n1 kd1 I1 J1 P1 (some (.int w)) k D)) ∧ ∀ n2 kd2 I2 J2 P2, C n2 kd2 I2 J2 P2 → D kd2 I2 P2 → Nx o n2 kd2 I2 J2 P2
section
variable {o n : Nat} {kd : mK} {I : mI} {J : mJ} {P : mP} {yc : MethodName} {cc : ByteArray} {nL : Nat} {rc : Option FieldType} {yr : MethodName} {cr : ByteArray} {nLr : Nat} {rt : Option FieldType} {args : List Value} {K9 : Nat} {E1 E2 : String} {Vp : Int32 → Prop}
theorem pr_of {t t' : Nat} {T T' : Nat → Nat} {fp fp' : Int32} {rr rr' : Nat → Int32} {H M H' M' : Nat} {un un' : Bool} {cs cs' : Nat → List Nat} {tx tx' : Nat → List Int32} {e e' : Lf} {im im' : Option Lf} {wk wk' : Option (List Nat)} {k d mc ms d3 : Nat} {v w : Int32} (hb : k ≤ K9 ∧ d ≤ 63 ∧ mc ≤ 1 ∧ ms ≤ 10240 ∧ d3 ≤ 63 ∧ (k = 0 → v = w) ∧ (k = 0 → Vp v)) (hR : RR (o + 69) kd I P t T fp rr H M un cs tx e im wk) (hok : okQ t' T' H' M' cs' tx' e') (hc : Ct yc cc nL rc d mc ms (.ref o :: args) n kd I J P (pK o n kd I J P (rsl k v E1 E2) (CX o t' T' fp' rr' H' M' un' cs' tx' e' im' wk'))) (hq : ∀ n1 kd1 I1 J1 P1, RR (o + 69) kd1 I1 P1 t T fp rr H M un cs tx e im wk → Ct yr cr nLr rt d3 0 0 (.ref (o + 69) :: args) n1 kd1 I1 J1 P1 (pQ (o + 69) n1 kd1 I1 J1 P1 (some (.int w)) k (RX (o + 69) t' T' fp' rr' H' M' un' cs' tx' e' im' wk'))) : Pr o n kd I J P yc cc nL rc yr cr nLr rt args K9 E1 E2 Vp :=
  ⟨k, d, mc, ms, d3, v, w, CX o t' T' fp' rr' H' M' un' cs' tx' e' im' wk', RX (o + 69) t' T' fp' rr' H' M' un' cs' tx' e' im' wk', hb, Tr.cx, hc, fun n1 kd1 I1 J1 P1 hs => hq n1 kd1 I1 J1 P1 (hR.fr hs), fun n2 kd2 I2 J2 P2 h1 h2 => ⟨t', T', fp', rr', H', M', un', cs', tx', e', im', wk', hok, h1, h2⟩⟩
end
theorem okQ.e {t : Nat} {T : Nat → Nat} {H M : Nat} {cs : Nat → List Nat} {tx : Nat → List Int32} {e e' : Lf} (h : okQ t T H M cs tx e) (he : okL H M e') : okQ t T H M cs tx e' := ⟨⟨h.1.1, h.1.2.1, he⟩, h.2⟩
/-- a number within bounds, or out of them -/
theorem rg (y : Int32) (b : Nat) (hb : b < 2 ^ 31) : (∃ k, k ≤ b ∧ y = nI k) ∨ (y < 0 ∨ nI b < y) := by
  by_cases h1 : y < 0
  · exact Or.inr (Or.inl h1)
  by_cases h2 : nI b < y
  · exact Or.inr (Or.inr h2)
  refine Or.inl ?_
  have h3 : ¬ y.toInt < 0 := fun q => h1 (Int32.lt_iff_toInt_lt.mpr q)
  have h4 : ¬ (nI b).toInt < y.toInt := fun q => h2 (Int32.lt_iff_toInt_lt.mpr q)
  rw [nI_toInt hb] at h4
  refine ⟨y.toInt.toNat, by omega, Int32.toInt_inj.mp ?_⟩
  rw [nI_toInt (by omega)]
  omega
theorem rg_i {y : Int32} {b : Nat} (hb : b < 2 ^ 31) (h : y < 0 ∨ nI b < y) : ¬ (0 ≤ y.toInt ∧ y.toInt ≤ (b : Int)) := by
  rintro ⟨h1, h2⟩
  rcases h with q | q
  · have : y.toInt < 0 := Int32.lt_iff_toInt_lt.mp q
    omega
  · have : (nI b).toInt < y.toInt := Int32.lt_iff_toInt_lt.mp q
    rw [nI_toInt hb] at this
    omega
theorem rg_h {y : Int32} {b : Nat} (hb : b + 1 < 2 ^ 31) (h : y < 0 ∨ nI b < y) : (!decide (y < 0) && decide (y < nI (b + 1))) = false := by
  rcases h with q | q
  · rw [decide_eq_true q]; rfl
  · rw [decide_eq_false (p := y < nI (b + 1)), Bool.and_false]
    intro z
    have h1 : (nI b).toInt < y.toInt := Int32.lt_iff_toInt_lt.mp q
    have h2 : y.toInt < (nI (b + 1)).toInt := Int32.lt_iff_toInt_lt.mp z
    rw [nI_toInt (by omega)] at h1 h2
    omega
theorem rg_w {y : Int32} {b : Nat} (h : y < 0 ∨ nI b < y) : (!decide (y < nI 0) && !decide (nI b < y)) = false := wi_no h
theorem rg_2 {y : Int32} (h : y < 0 ∨ nI 1 < y) : (decide (y = 0) || decide (y = nI 1)) = false := by
  rw [decide_eq_false, decide_eq_false]; rfl
  · rintro rfl; exact absurd h (by decide)
  · rintro rfl; exact absurd h (by decide)
theorem hs_cs (y : Int32) {H : Nat} (hH : H ≤ 8) : (∃ k, k < H ∧ y = nI k) ∨ (!decide (y < 0) && decide (y < nI H)) = false := by
  by_cases a : (!decide (y < 0) && decide (y < nI H)) = true
  · exact Or.inl (isH (by omega) a)
  · exact Or.inr (by simpa using a)
theorem nu_cs (y : Int32) {M : Nat} (hM : M ≤ 20) : (∃ k, 1 ≤ k ∧ k ≤ M ∧ y = nI k) ∨ (!decide (y < nI 1) && decide (y ≤ nI M)) = false := by
  by_cases a : (!decide (y < nI 1) && decide (y ≤ nI M)) = true
  · exact Or.inl (isN (by omega) a)
  · exact Or.inr (by simpa using a)
theorem nu_no {y : Int32} {M : Nat} (h : (!decide (y < nI 1) && decide (y ≤ nI M)) = false) : y < nI 1 ∨ nI M < y := by
  by_cases a : y < nI 1
  · exact Or.inl a
  · refine Or.inr ?_
    rw [decide_eq_false a, Bool.not_false, Bool.true_and, decide_eq_false_iff_not] at h
    exact Int32.not_le.mp h
theorem lo_exB {p : Nat → Bool} : ∀ n, p n = true → ∃ m, p m = true ∧ ∀ j, j < m → p j = false := by
  intro n
  induction n using Nat.strongRecOn with
  | ind n ih =>
    intro h
    by_cases c : ∃ j, j < n ∧ p j = true
    · obtain ⟨j, h1, h2⟩ := c
      exact ih j h1 h2
    · refine ⟨n, h, fun j hj => ?_⟩
      cases q : p j
      · rfl
      · exact absurd ⟨j, hj, q⟩ c
theorem lhB_ex {w : Nat} (hw : ¬ w = 0) : ∃ lo hi, lhB w lo hi := by
  obtain ⟨i, hi⟩ := Nat.exists_testBit_of_ne_zero hw
  obtain ⟨lo, h1, h2⟩ := lo_exB (p := w.testBit) i hi
  have hb : ∀ j, w ≤ j → w.testBit j = false := fun j hj => Nat.testBit_lt_two_pow (Nat.lt_of_le_of_lt hj Nat.lt_two_pow_self)
  have hilt : i < w := by
    rcases Nat.lt_or_ge i w with q | q
    · exact q
    · rw [hb i q] at hi; exact absurd hi (by decide)
  obtain ⟨d, g1, g2⟩ := lo_exB (p := fun d => w.testBit (w - d)) (w - i) (by show w.testBit (w - (w - i)) = true; rw [show w - (w - i) = i by omega]; exact hi)
  refine ⟨lo, w - d, ⟨h1, h2⟩, g1, fun j hj => ?_⟩
  rcases Nat.lt_or_ge j w with q | q
  · have := g2 (w - j) (by omega)
    have e : w.testBit (w - (w - j)) = false := this
    rw [show w - (w - j) = j by omega] at e
    exact e
  · exact hb j q
theorem CR.im {o b s f l n t : Nat} {kd : mK} {I : mI} {J : mJ} {P : mP} {T : Nat → Nat} {fp : Int32} {rr : Nat → Int32} {H M : Nat} {un : Bool} {cs : Nat → List Nat} {tx : Nat → List Int32} {e e9 : Lf} {wk : Option (List Nat)} (hC : CR o b s f l n kd I J P t T fp rr H M un cs tx e (some e9) wk) : okL H M e9 := by
  obtain ⟨hX, hsc, hT, hSt, hLf, hIm, hWk, hQc, hPc⟩ := hC
  exact hIm.2.2
theorem CR.w10 {o b s f l n t : Nat} {kd : mK} {I : mI} {J : mJ} {P : mP} {T : Nat → Nat} {fp : Int32} {rr : Nat → Int32} {H M : Nat} {un : Bool} {cs : Nat → List Nat} {tx : Nat → List Int32} {e : Lf} {im : Option Lf} {w : List Nat} (hC : CR o b s f l n kd I J P t T fp rr H M un cs tx e im (some w)) : w.length ≤ 10 := by
  obtain ⟨hX, hsc, hT, hSt, hLf, hIm, hWk, hQc, hPc⟩ := hC
  exact hWk.2.2.1
theorem okL_setL {H M : Nat} {e : Lf} {L : List (Nat × Nat)} (h : okL H M e) (h1 : L.length ≤ 10) (h2 : ∀ q ∈ L, q.1 < H ∧ 1 ≤ q.2 ∧ q.2 ≤ M) : okL H M (setL e L) := ⟨h.1, h.2.1, h1, h2⟩
theorem rg1 (y : Int32) (b : Nat) (hb : b < 2 ^ 31) : (∃ k, 1 ≤ k ∧ k ≤ b ∧ y = nI k) ∨ (y < nI 1 ∨ nI b < y) := by
  by_cases h : y < nI 1 ∨ nI b < y
  · exact Or.inr h
  · have h1 : ¬ y < nI 1 := fun q => h (Or.inl q)
    have h2 : ¬ nI b < y := fun q => h (Or.inr q)
    exact Or.inl (isN hb (by rw [decide_eq_false h1, decide_eq_true (Int32.not_lt.mp h2)]; rfl))
theorem m1_ex {y : Int32} {L : Nat} (hL : L < 2 ^ 31) (h1 : ¬ y = -1) (h : ¬ (y < -1 ∨ ¬ y < nI L)) : ∃ i, i < L ∧ y = nI i := by
  have h2 : ¬ y < -1 := fun q => h (Or.inl q)
  have h3 : y < nI L := by
    by_cases c : y < nI L
    · exact c
    · exact absurd (Or.inr c) h
  have g2 : ¬ y.toInt < -1 := fun q => h2 (Int32.lt_iff_toInt_lt.mpr q)
  have g1 : ¬ y.toInt = -1 := fun q => h1 (Int32.toInt_inj.mp q)
  have g3 : y.toInt < (nI L).toInt := Int32.lt_iff_toInt_lt.mp h3
  rw [nI_toInt hL] at g3
  refine ⟨y.toInt.toNat, by omega, Int32.toInt_inj.mp ?_⟩
  rw [nI_toInt (by omega)]
  omega
set_option maxHeartbeats 4000000 in
set_option maxRecDepth 100000 in
theorem pr_fault (o b s f l : Nat) {t : Nat} {T : Nat → Nat} {fp : Int32} {rr : Nat → Int32} {H M : Nat} {un : Bool} {cs : Nat → List Nat} {tx : Nat → List Int32} {e : Lf} {im : Option Lf} {wk : Option (List Nat)} {n : Nat} {kd : mK} {I : mI} {J : mJ} {P : mP} (hC : CR o b s f l n kd I J P t T fp rr H M un cs tx e im wk) (hok : okQ t T H M cs tx e) (hR : RR (o + 69) kd I P t T fp rr H M un cs tx e im wk) : Pr o n kd I J P yX9_fault cX9_fault 1 (some .int) yX10_fault cX10_fault 1 (some .int) [] 0 "" "" (fun _ => True) := by
  have hz := hok.1
  have hH8 : H ≤ 8 := hz.2.1.2.1
  have hM20 : M ≤ 20 := hz.2.1.1.2
  exact pr_of (k := 0) ⟨by decide, by decide, by decide, by decide, by decide, fun _ => rfl, by first | exact fun _ => trivial | exact fun _ => Or.inl rfl | exact fun _ => Or.inr rfl | exact fun q => absurd q (by decide)⟩ hR (hok) (k_fault o b s f l  hC hz ) (fun n1 kd1 I1 J1 P1 hR1 => q_fault (o + 69)  hR1 hz )

set_option maxHeartbeats 4000000 in
set_option maxRecDepth 100000 in
theorem pr_numberings (o b s f l : Nat) {t : Nat} {T : Nat → Nat} {fp : Int32} {rr : Nat → Int32} {H M : Nat} {un : Bool} {cs : Nat → List Nat} {tx : Nat → List Int32} {e : Lf} {im : Option Lf} {wk : Option (List Nat)} {n : Nat} {kd : mK} {I : mI} {J : mJ} {P : mP} (hC : CR o b s f l n kd I J P t T fp rr H M un cs tx e im wk) (hok : okQ t T H M cs tx e) (hR : RR (o + 69) kd I P t T fp rr H M un cs tx e im wk) : Pr o n kd I J P yX9_numberings cX9_numberings 1 (some .int) yX10_numberings cX10_numberings 1 (some .int) [] 0 "" "" (fun _ => True) := by
  have hz := hok.1
  have hH8 : H ≤ 8 := hz.2.1.2.1
  have hM20 : M ≤ 20 := hz.2.1.1.2
  exact pr_of (k := 0) ⟨by decide, by decide, by decide, by decide, by decide, fun _ => rfl, by first | exact fun _ => trivial | exact fun _ => Or.inl rfl | exact fun _ => Or.inr rfl | exact fun q => absurd q (by decide)⟩ hR (hok) (k_numberings o b s f l  hC hz ) (fun n1 kd1 I1 J1 P1 hR1 => q_numberings (o + 69)  hR1 hz )

set_option maxHeartbeats 4000000 in
set_option maxRecDepth 100000 in
theorem pr_tries (o b s f l : Nat) {t : Nat} {T : Nat → Nat} {fp : Int32} {rr : Nat → Int32} {H M : Nat} {un : Bool} {cs : Nat → List Nat} {tx : Nat → List Int32} {e : Lf} {im : Option Lf} {wk : Option (List Nat)} {n : Nat} {kd : mK} {I : mI} {J : mJ} {P : mP} (hC : CR o b s f l n kd I J P t T fp rr H M un cs tx e im wk) (hok : okQ t T H M cs tx e) (hR : RR (o + 69) kd I P t T fp rr H M un cs tx e im wk) : Pr o n kd I J P yX9_tries cX9_tries 1 (some .int) yX10_tries cX10_tries 1 (some .int) [] 0 "" "" (fun _ => True) := by
  have hz := hok.1
  have hH8 : H ≤ 8 := hz.2.1.2.1
  have hM20 : M ≤ 20 := hz.2.1.1.2
  exact pr_of (k := 0) ⟨by decide, by decide, by decide, by decide, by decide, fun _ => rfl, by first | exact fun _ => trivial | exact fun _ => Or.inl rfl | exact fun _ => Or.inr rfl | exact fun q => absurd q (by decide)⟩ hR (hok) (k_tries o b s f l  hC hz ) (fun n1 kd1 I1 J1 P1 hR1 => q_tries (o + 69)  hR1 hz )

set_option maxHeartbeats 4000000 in
set_option maxRecDepth 100000 in
theorem pr_knot (o b s f l : Nat) {t : Nat} {T : Nat → Nat} {fp : Int32} {rr : Nat → Int32} {H M : Nat} {un : Bool} {cs : Nat → List Nat} {tx : Nat → List Int32} {e : Lf} {im : Option Lf} {wk : Option (List Nat)} {n : Nat} {kd : mK} {I : mI} {J : mJ} {P : mP} (hC : CR o b s f l n kd I J P t T fp rr H M un cs tx e im wk) (hok : okQ t T H M cs tx e) (hR : RR (o + 69) kd I P t T fp rr H M un cs tx e im wk) : Pr o n kd I J P yX9_knot cX9_knot 1 (some .int) yX10_knot cX10_knot 1 (some .int) [] 0 "" "" (fun _ => True) := by
  have hz := hok.1
  have hH8 : H ≤ 8 := hz.2.1.2.1
  have hM20 : M ≤ 20 := hz.2.1.1.2
  exact pr_of (k := 0) ⟨by decide, by decide, by decide, by decide, by decide, fun _ => rfl, by first | exact fun _ => trivial | exact fun _ => Or.inl rfl | exact fun _ => Or.inr rfl | exact fun q => absurd q (by decide)⟩ hR (hok) (k_knot o b s f l  hC hz ) (fun n1 kd1 I1 J1 P1 hR1 => q_knot (o + 69)  hR1 hz )

set_option maxHeartbeats 4000000 in
set_option maxRecDepth 100000 in
theorem pr_liars (o b s f l : Nat) {t : Nat} {T : Nat → Nat} {fp : Int32} {rr : Nat → Int32} {H M : Nat} {un : Bool} {cs : Nat → List Nat} {tx : Nat → List Int32} {e : Lf} {im : Option Lf} {wk : Option (List Nat)} {n : Nat} {kd : mK} {I : mI} {J : mJ} {P : mP} (hC : CR o b s f l n kd I J P t T fp rr H M un cs tx e im wk) (hok : okQ t T H M cs tx e) (hR : RR (o + 69) kd I P t T fp rr H M un cs tx e im wk) : Pr o n kd I J P yX9_liars cX9_liars 1 (some .int) yX10_liars cX10_liars 4 (some .int) [] 0 "" "" (fun _ => True) := by
  have hz := hok.1
  have hH8 : H ≤ 8 := hz.2.1.2.1
  have hM20 : M ≤ 20 := hz.2.1.1.2
  exact pr_of (k := 0) ⟨by decide, by decide, by decide, by decide, by decide, fun _ => rfl, by first | exact fun _ => trivial | exact fun _ => Or.inl rfl | exact fun _ => Or.inr rfl | exact fun q => absurd q (by decide)⟩ hR (hok) (k_liars o b s f l  hC hz ) (fun n1 kd1 I1 J1 P1 hR1 => q_liars (o + 69)  hR1 hz )

set_option maxHeartbeats 4000000 in
set_option maxRecDepth 100000 in
theorem pr_feed (o b s f l : Nat) (y1 : Int32) (y2 : Int32) (y3 : Int32) (y4 : Int32) (y5 : Int32) {t : Nat} {T : Nat → Nat} {fp : Int32} {rr : Nat → Int32} {H M : Nat} {un : Bool} {cs : Nat → List Nat} {tx : Nat → List Int32} {e : Lf} {im : Option Lf} {wk : Option (List Nat)} {n : Nat} {kd : mK} {I : mI} {J : mJ} {P : mP} (hC : CR o b s f l n kd I J P t T fp rr H M un cs tx e im wk) (hok : okQ t T H M cs tx e) (hR : RR (o + 69) kd I P t T fp rr H M un cs tx e im wk) : Pr o n kd I J P yX9_feed cX9_feed 6 (some .int) yX10_feed cX10_feed 6 (some .int) [.int y1, .int y2, .int y3, .int y4, .int y5] 0 "" "" (fun _ => True) := by
  have hz := hok.1
  have hH8 : H ≤ 8 := hz.2.1.2.1
  have hM20 : M ≤ 20 := hz.2.1.1.2
  by_cases ht : t + 20 ≤ 500
  · exact pr_of (k := 0) ⟨by decide, by decide, by decide, by decide, by decide, fun _ => rfl, by first | exact fun _ => trivial | exact fun _ => Or.inl rfl | exact fun _ => Or.inr rfl | exact fun q => absurd q (by decide)⟩ hR (⟨⟨okT_fd ht hz.1, hz.2⟩, hok.2⟩) (k_feed o b s f l y1 y2 y3 y4 y5 hC hz ht) (fun n1 kd1 I1 J1 P1 hR1 => q_feed (o + 69) y1 y2 y3 y4 y5 hR1 hz ht)
  · exact pr_of (k := 0) ⟨by decide, by decide, by decide, by decide, by decide, fun _ => rfl, by first | exact fun _ => trivial | exact fun _ => Or.inl rfl | exact fun _ => Or.inr rfl | exact fun q => absurd q (by decide)⟩ hR (hok) (k_feed_no o b s f l y1 y2 y3 y4 y5 hC hz ht) (fun n1 kd1 I1 J1 P1 hR1 => q_feed_no (o + 69) y1 y2 y3 y4 y5 hR1 hz ht)

set_option maxHeartbeats 4000000 in
set_option maxRecDepth 100000 in
theorem pr_count (o b s f l : Nat) (y1 : Int32) {t : Nat} {T : Nat → Nat} {fp : Int32} {rr : Nat → Int32} {H M : Nat} {un : Bool} {cs : Nat → List Nat} {tx : Nat → List Int32} {e : Lf} {im : Option Lf} {wk : Option (List Nat)} {n : Nat} {kd : mK} {I : mI} {J : mJ} {P : mP} (hC : CR o b s f l n kd I J P t T fp rr H M un cs tx e im wk) (hok : okQ t T H M cs tx e) (hR : RR (o + 69) kd I P t T fp rr H M un cs tx e im wk) : Pr o n kd I J P yX9_count cX9_count 2 (some .int) yX10_count cX10_count 2 (some .int) [.int y1] 1 "java/util/NoSuchElementException" "" (fun _ => True) := by
  have hz := hok.1
  have hH8 : H ≤ 8 := hz.2.1.2.1
  have hM20 : M ≤ 20 := hz.2.1.1.2
  rcases rg y1 8 (by decide) with ⟨w, hw, rfl⟩ | hn
  · rcases (show w = 0 ∨ w = 1 ∨ w = 2 ∨ w = 3 ∨ w = 4 ∨ w = 5 ∨ w = 6 ∨ w = 7 ∨ w = 8 by omega) with rfl | rfl | rfl | rfl | rfl | rfl | rfl | rfl | rfl
    · exact pr_of (k := 0) ⟨by decide, by decide, by decide, by decide, by decide, fun _ => rfl, by first | exact fun _ => trivial | exact fun _ => Or.inl rfl | exact fun _ => Or.inr rfl | exact fun q => absurd q (by decide)⟩ hR (hok) (k_count_0 o b s f l  hC hz ) (fun n1 kd1 I1 J1 P1 hR1 => q_count_0 (o + 69)  hR1 hz )
    · exact pr_of (k := 0) ⟨by decide, by decide, by decide, by decide, by decide, fun _ => rfl, by first | exact fun _ => trivial | exact fun _ => Or.inl rfl | exact fun _ => Or.inr rfl | exact fun q => absurd q (by decide)⟩ hR (hok) (k_count_1 o b s f l  hC hz ) (fun n1 kd1 I1 J1 P1 hR1 => q_count_1 (o + 69)  hR1 hz )
    · exact pr_of (k := 0) ⟨by decide, by decide, by decide, by decide, by decide, fun _ => rfl, by first | exact fun _ => trivial | exact fun _ => Or.inl rfl | exact fun _ => Or.inr rfl | exact fun q => absurd q (by decide)⟩ hR (hok) (k_count_2 o b s f l  hC hz ) (fun n1 kd1 I1 J1 P1 hR1 => q_count_2 (o + 69)  hR1 hz )
    · exact pr_of (k := 0) ⟨by decide, by decide, by decide, by decide, by decide, fun _ => rfl, by first | exact fun _ => trivial | exact fun _ => Or.inl rfl | exact fun _ => Or.inr rfl | exact fun q => absurd q (by decide)⟩ hR (hok) (k_count_3 o b s f l  hC hz ) (fun n1 kd1 I1 J1 P1 hR1 => q_count_3 (o + 69)  hR1 hz )
    · exact pr_of (k := 0) ⟨by decide, by decide, by decide, by decide, by decide, fun _ => rfl, by first | exact fun _ => trivial | exact fun _ => Or.inl rfl | exact fun _ => Or.inr rfl | exact fun q => absurd q (by decide)⟩ hR (hok) (k_count_4 o b s f l  hC hz ) (fun n1 kd1 I1 J1 P1 hR1 => q_count_4 (o + 69)  hR1 hz )
    · exact pr_of (k := 0) ⟨by decide, by decide, by decide, by decide, by decide, fun _ => rfl, by first | exact fun _ => trivial | exact fun _ => Or.inl rfl | exact fun _ => Or.inr rfl | exact fun q => absurd q (by decide)⟩ hR (hok) (k_count_5 o b s f l  hC hz ) (fun n1 kd1 I1 J1 P1 hR1 => q_count_5 (o + 69)  hR1 hz )
    · exact pr_of (k := 0) ⟨by decide, by decide, by decide, by decide, by decide, fun _ => rfl, by first | exact fun _ => trivial | exact fun _ => Or.inl rfl | exact fun _ => Or.inr rfl | exact fun q => absurd q (by decide)⟩ hR (hok) (k_count_6 o b s f l  hC hz ) (fun n1 kd1 I1 J1 P1 hR1 => q_count_6 (o + 69)  hR1 hz )
    · exact pr_of (k := 0) ⟨by decide, by decide, by decide, by decide, by decide, fun _ => rfl, by first | exact fun _ => trivial | exact fun _ => Or.inl rfl | exact fun _ => Or.inr rfl | exact fun q => absurd q (by decide)⟩ hR (hok) (k_count_7 o b s f l  hC hz ) (fun n1 kd1 I1 J1 P1 hR1 => q_count_7 (o + 69)  hR1 hz )
    · exact pr_of (k := 0) ⟨by decide, by decide, by decide, by decide, by decide, fun _ => rfl, by first | exact fun _ => trivial | exact fun _ => Or.inl rfl | exact fun _ => Or.inr rfl | exact fun q => absurd q (by decide)⟩ hR (hok) (k_count_8 o b s f l  hC hz ) (fun n1 kd1 I1 J1 P1 hR1 => q_count_8 (o + 69)  hR1 hz )
  · exact pr_of (k := 1) (v := 0) (w := nI 0) ⟨by decide, by decide, by decide, by decide, by decide, fun q => absurd q (by decide), by first | exact fun _ => trivial | exact fun _ => Or.inl rfl | exact fun _ => Or.inr rfl | exact fun q => absurd q (by decide)⟩ hR (hok) ((c_count_no o y1 (rg_i (b := 8) (by decide) hn)).mono (fun _ _ _ _ _ _ hx => pK.sm hC hx)) (fun n1 kd1 I1 J1 P1 hR1 => (c_countR_no (o + 69) y1 hR1.1 (rg_w hn)).mono (fun _ _ _ _ _ _ hx => pQ.th hR1 hx))

set_option maxHeartbeats 4000000 in
set_option maxRecDepth 100000 in
theorem pr_house (o b s f l : Nat) (y1 : Int32) (y2 : Int32) {t : Nat} {T : Nat → Nat} {fp : Int32} {rr : Nat → Int32} {H M : Nat} {un : Bool} {cs : Nat → List Nat} {tx : Nat → List Int32} {e : Lf} {im : Option Lf} {wk : Option (List Nat)} {n : Nat} {kd : mK} {I : mI} {J : mJ} {P : mP} (hC : CR o b s f l n kd I J P t T fp rr H M un cs tx e im wk) (hok : okQ t T H M cs tx e) (hR : RR (o + 69) kd I P t T fp rr H M un cs tx e im wk) : Pr o n kd I J P yX9_house cX9_house 3 (some .int) yX10_house cX10_house 3 (some .int) [.int y1, .int y2] 1 "java/util/NoSuchElementException" "" (fun _ => True) := by
  have hz := hok.1
  have hH8 : H ≤ 8 := hz.2.1.2.1
  have hM20 : M ≤ 20 := hz.2.1.1.2
  rcases hs_cs y1 hH8 with ⟨h, hh, rfl⟩ | hn
  · rcases rg y2 4 (by decide) with ⟨w, hw, rfl⟩ | hw
    · rcases (show w = 0 ∨ w = 1 ∨ w = 2 ∨ w = 3 ∨ w = 4 by omega) with rfl | rfl | rfl | rfl | rfl
      · exact pr_of (k := 0) ⟨by decide, by decide, by decide, by decide, by decide, fun _ => rfl, by first | exact fun _ => trivial | exact fun _ => Or.inl rfl | exact fun _ => Or.inr rfl | exact fun q => absurd q (by decide)⟩ hR (hok) ((k_house_0 o b s f l h hC hz hh).mono (fun _ _ _ _ _ _ hx => pK.is hC hx)) (fun n1 kd1 I1 J1 P1 hR1 => q_house_0 (o + 69) h hR1 hz hh)
      · exact pr_of (k := 0) ⟨by decide, by decide, by decide, by decide, by decide, fun _ => rfl, by first | exact fun _ => trivial | exact fun _ => Or.inl rfl | exact fun _ => Or.inr rfl | exact fun q => absurd q (by decide)⟩ hR (hok) ((k_house_1 o b s f l h hC hz hh).mono (fun _ _ _ _ _ _ hx => pK.is hC hx)) (fun n1 kd1 I1 J1 P1 hR1 => q_house_1 (o + 69) h hR1 hz hh)
      · exact pr_of (k := 0) ⟨by decide, by decide, by decide, by decide, by decide, fun _ => rfl, by first | exact fun _ => trivial | exact fun _ => Or.inl rfl | exact fun _ => Or.inr rfl | exact fun q => absurd q (by decide)⟩ hR (hok) ((k_house_2 o b s f l h hC hz hh).mono (fun _ _ _ _ _ _ hx => pK.is hC hx)) (fun n1 kd1 I1 J1 P1 hR1 => q_house_2 (o + 69) h hR1 hz hh)
      · exact pr_of (k := 0) ⟨by decide, by decide, by decide, by decide, by decide, fun _ => rfl, by first | exact fun _ => trivial | exact fun _ => Or.inl rfl | exact fun _ => Or.inr rfl | exact fun q => absurd q (by decide)⟩ hR (hok) ((k_house_3 o b s f l h hC hz hh).mono (fun _ _ _ _ _ _ hx => pK.is hC hx)) (fun n1 kd1 I1 J1 P1 hR1 => q_house_3 (o + 69) h hR1 hz hh)
      · exact pr_of (k := 0) ⟨by decide, by decide, by decide, by decide, by decide, fun _ => rfl, by first | exact fun _ => trivial | exact fun _ => Or.inl rfl | exact fun _ => Or.inr rfl | exact fun q => absurd q (by decide)⟩ hR (hok) ((k_house_4 o b s f l h hC hz hh).mono (fun _ _ _ _ _ _ hx => pK.is hC hx)) (fun n1 kd1 I1 J1 P1 hR1 => q_house_4 (o + 69) h hR1 hz hh)
    · exact pr_of (k := 1) (v := 0) (w := nI 0) ⟨by decide, by decide, by decide, by decide, by decide, fun q => absurd q (by decide), by first | exact fun _ => trivial | exact fun _ => Or.inl rfl | exact fun _ => Or.inr rfl | exact fun q => absurd q (by decide)⟩ hR (hok) ((k_house_no o b s f l h y2 hC hz hh (rg_i (b := 4) (by decide) hw)).mono (fun _ _ _ _ _ _ hx => pK.sm hC hx)) (fun n1 kd1 I1 J1 P1 hR1 => q_house_no (o + 69) h y2 hR1 hz hh (rg_w hw))
  · exact pr_of (k := 1) (v := 0) (w := nI 0) ⟨by decide, by decide, by decide, by decide, by decide, fun q => absurd q (by decide), by first | exact fun _ => trivial | exact fun _ => Or.inl rfl | exact fun _ => Or.inr rfl | exact fun q => absurd q (by decide)⟩ hR (hok) ((k_nh_house o b s f l y1 y2 hC hz hn).mono (fun _ _ _ _ _ _ hx => pK.sm hC hx)) (fun n1 kd1 I1 J1 P1 hR1 => q_nh_house (o + 69) y1 y2 hR1 hz hn)

set_option maxHeartbeats 4000000 in
set_option maxRecDepth 100000 in
theorem pr_become (o b s f l : Nat) (y1 : Int32) (y2 : Int32) (y3 : Int32) {t : Nat} {T : Nat → Nat} {fp : Int32} {rr : Nat → Int32} {H M : Nat} {un : Bool} {cs : Nat → List Nat} {tx : Nat → List Int32} {e : Lf} {im : Option Lf} {wk : Option (List Nat)} {n : Nat} {kd : mK} {I : mI} {J : mJ} {P : mP} (hC : CR o b s f l n kd I J P t T fp rr H M un cs tx e im wk) (hok : okQ t T H M cs tx e) (hR : RR (o + 69) kd I P t T fp rr H M un cs tx e im wk) : Pr o n kd I J P yX9_become cX9_become 5 (some .int) yX10_become cX10_become 5 (some .int) [.int y1, .int y2, .int y3] 1 "java/util/NoSuchElementException" "" (fun _ => True) := by
  have hz := hok.1
  have hH8 : H ≤ 8 := hz.2.1.2.1
  have hM20 : M ≤ 20 := hz.2.1.1.2
  rcases hs_cs y1 hH8 with ⟨h, hh, rfl⟩ | hn
  · rcases rg y2 1 (by decide) with ⟨k, hk, rfl⟩ | hw
    · rcases rg y3 99 (by decide) with ⟨v, hv, rfl⟩ | hv
      · exact pr_of (k := 0) ⟨by decide, by decide, by decide, by decide, by decide, fun _ => rfl, by first | exact fun _ => trivial | exact fun _ => Or.inl rfl | exact fun _ => Or.inr rfl | exact fun q => absurd q (by decide)⟩ hR (hok.e (okL_act (by omega) hh hv hz.2.2)) (k_become o b s f l h k v hC hz hh (by omega) hv) (fun n1 kd1 I1 J1 P1 hR1 => q_become (o + 69) h k v hR1 hz hh (by omega) hv)
      · exact pr_of (k := 0) ⟨by decide, by decide, by decide, by decide, by decide, fun _ => rfl, by first | exact fun _ => trivial | exact fun _ => Or.inl rfl | exact fun _ => Or.inr rfl | exact fun q => absurd q (by decide)⟩ hR (hok) (k_become_ref o b s f l h k y3 hC hz hh (by omega) hv) (fun n1 kd1 I1 J1 P1 hR1 => q_become_ref (o + 69) h k y3 hR1 hz hh (by omega) hv)
    · exact pr_of (k := 1) (v := 0) (w := nI 0) ⟨by decide, by decide, by decide, by decide, by decide, fun q => absurd q (by decide), by first | exact fun _ => trivial | exact fun _ => Or.inl rfl | exact fun _ => Or.inr rfl | exact fun q => absurd q (by decide)⟩ hR (hok) ((k_become_no o b s f l h y2 y3 hC hz hh (rg_h (by decide) hw)).mono (fun _ _ _ _ _ _ hx => pK.sm hC hx)) (fun n1 kd1 I1 J1 P1 hR1 => q_become_no (o + 69) h y2 y3 hR1 hz hh (rg_h (by decide) hw))
  · exact pr_of (k := 1) (v := 0) (w := nI 0) ⟨by decide, by decide, by decide, by decide, by decide, fun q => absurd q (by decide), by first | exact fun _ => trivial | exact fun _ => Or.inl rfl | exact fun _ => Or.inr rfl | exact fun q => absurd q (by decide)⟩ hR (hok) ((k_nh_become o b s f l y1 y2 y3 hC hz hn).mono (fun _ _ _ _ _ _ hx => pK.sm hC hx)) (fun n1 kd1 I1 J1 P1 hR1 => q_nh_become (o + 69) y1 y2 y3 hR1 hz hn)

set_option maxHeartbeats 4000000 in
set_option maxRecDepth 100000 in
theorem pr_mute (o b s f l : Nat) (y1 : Int32) (y2 : Bool) {t : Nat} {T : Nat → Nat} {fp : Int32} {rr : Nat → Int32} {H M : Nat} {un : Bool} {cs : Nat → List Nat} {tx : Nat → List Int32} {e : Lf} {im : Option Lf} {wk : Option (List Nat)} {n : Nat} {kd : mK} {I : mI} {J : mJ} {P : mP} (hC : CR o b s f l n kd I J P t T fp rr H M un cs tx e im wk) (hok : okQ t T H M cs tx e) (hR : RR (o + 69) kd I P t T fp rr H M un cs tx e im wk) : Pr o n kd I J P yX9_mute cX9_mute 4 (some .boolean) yX10_mute cX10_mute 3 (some .boolean) [.int y1, .int (bz y2)] 1 "java/util/NoSuchElementException" "" (fun v => v = nI 0 ∨ v = nI 1) := by
  have hz := hok.1
  have hH8 : H ≤ 8 := hz.2.1.2.1
  have hM20 : M ≤ 20 := hz.2.1.1.2
  rcases hs_cs y1 hH8 with ⟨h, hh, rfl⟩ | hn
  · by_cases hm : (cs h).isEmpty = true ∨ e.2.2.1 h = y2
    · exact pr_of (k := 0) ⟨by decide, by decide, by decide, by decide, by decide, fun _ => rfl, by first | exact fun _ => trivial | exact fun _ => Or.inl rfl | exact fun _ => Or.inr rfl | exact fun q => absurd q (by decide)⟩ hR (hok) (k_mute_ref o b s f l h y2 hC hz hh hm) (fun n1 kd1 I1 J1 P1 hR1 => q_mute_ref (o + 69) h y2 hR1 hz hh hm)
    · have h1 : (cs h).isEmpty = false := by
        cases q : (cs h).isEmpty
        · rfl
        · exact absurd (Or.inl q) hm
      have h2 : ¬ e.2.2.1 h = y2 := fun q => hm (Or.inr q)
      exact pr_of (k := 0) ⟨by decide, by decide, by decide, by decide, by decide, fun _ => rfl, by first | exact fun _ => trivial | exact fun _ => Or.inl rfl | exact fun _ => Or.inr rfl | exact fun q => absurd q (by decide)⟩ hR (hok.e (okL_act (by decide) hh (by split <;> decide) hz.2.2)) (k_mute o b s f l h y2 hC hz hh h1 h2) (fun n1 kd1 I1 J1 P1 hR1 => q_mute (o + 69) h y2 hR1 hz hh h1 h2)
  · exact pr_of (k := 1) (v := 0) (w := nI 0) ⟨by decide, by decide, by decide, by decide, by decide, fun q => absurd q (by decide), by first | exact fun _ => trivial | exact fun _ => Or.inl rfl | exact fun _ => Or.inr rfl | exact fun q => absurd q (by decide)⟩ hR (hok) ((k_nh_mute o b s f l y1 (bz y2) hC hz hn).mono (fun _ _ _ _ _ _ hx => pK.sm hC hx)) (fun n1 kd1 I1 J1 P1 hR1 => q_nh_mute (o + 69) y1 (bz y2) hR1 hz hn)

set_option maxHeartbeats 4000000 in
set_option maxRecDepth 100000 in
theorem pr_undo (o b s f l : Nat) {t : Nat} {T : Nat → Nat} {fp : Int32} {rr : Nat → Int32} {H M : Nat} {un : Bool} {cs : Nat → List Nat} {tx : Nat → List Int32} {e : Lf} {im : Option Lf} {wk : Option (List Nat)} {n : Nat} {kd : mK} {I : mI} {J : mJ} {P : mP} (hC : CR o b s f l n kd I J P t T fp rr H M un cs tx e im wk) (hok : okQ t T H M cs tx e) (hR : RR (o + 69) kd I P t T fp rr H M un cs tx e im wk) : Pr o n kd I J P yX9_undo cX9_undo 1 (some .int) yX10_undo cX10_undo 1 (some .int) [] 0 "" "" (fun _ => True) := by
  have hz := hok.1
  have hH8 : H ≤ 8 := hz.2.1.2.1
  have hM20 : M ≤ 20 := hz.2.1.1.2
  by_cases hne : e.2.2.2.1 = []
  · exact pr_of (k := 0) ⟨by decide, by decide, by decide, by decide, by decide, fun _ => rfl, by first | exact fun _ => trivial | exact fun _ => Or.inl rfl | exact fun _ => Or.inr rfl | exact fun q => absurd q (by decide)⟩ hR (hok) (k_undo_no o b s f l  hC hz hne) (fun n1 kd1 I1 J1 P1 hR1 => q_undo_no (o + 69)  hR1 hz hne)
  · exact pr_of (k := 0) ⟨by decide, by decide, by decide, by decide, by decide, fun _ => rfl, by first | exact fun _ => trivial | exact fun _ => Or.inl rfl | exact fun _ => Or.inr rfl | exact fun q => absurd q (by decide)⟩ hR (hok.e (okL_bk hne hz.2.2)) (k_undo o b s f l  hC hz hne) (fun n1 kd1 I1 J1 P1 hR1 => q_undo (o + 69)  hR1 hz hne)

set_option maxHeartbeats 4000000 in
set_option maxRecDepth 100000 in
theorem pr_letter (o b s f l : Nat) (y1 : Int32) (y2 : Int32) {t : Nat} {T : Nat → Nat} {fp : Int32} {rr : Nat → Int32} {H M : Nat} {un : Bool} {cs : Nat → List Nat} {tx : Nat → List Int32} {e : Lf} {im : Option Lf} {wk : Option (List Nat)} {n : Nat} {kd : mK} {I : mI} {J : mJ} {P : mP} (hC : CR o b s f l n kd I J P t T fp rr H M un cs tx e im wk) (hok : okQ t T H M cs tx e) (hR : RR (o + 69) kd I P t T fp rr H M un cs tx e im wk) : Pr o n kd I J P yX9_letter cX9_letter 3 (some .int) yX10_letter cX10_letter 3 (some .int) [.int y1, .int y2] 1 "java/util/NoSuchElementException" "" (fun _ => True) := by
  have hz := hok.1
  have hH8 : H ≤ 8 := hz.2.1.2.1
  have hM20 : M ≤ 20 := hz.2.1.1.2
  rcases hs_cs y1 hH8 with ⟨h, hh, rfl⟩ | hn
  · rcases nu_cs y2 hM20 with ⟨v, hv1, hv, rfl⟩ | hw
    · by_cases hlt : e.2.2.2.2.length < 10
      · exact pr_of (k := 0) ⟨by decide, by decide, by decide, by decide, by decide, fun _ => rfl, by first | exact fun _ => trivial | exact fun _ => Or.inl rfl | exact fun _ => Or.inr rfl | exact fun q => absurd q (by decide)⟩ hR (hok.e (okL_setL hz.2.2 (by rw [List.length_append]; show _ + 1 ≤ 10; omega) (fun q hq => (List.mem_append.mp hq).elim (fun z => hz.2.2.2.2.2 q z) (fun z => by rw [List.mem_singleton.mp z]; exact ⟨hh, hv1, hv⟩)))) (k_letter o b s f l h v hC hz hh hv1 hv hlt) (fun n1 kd1 I1 J1 P1 hR1 => q_letter (o + 69) h v hR1 hz hh hv1 hv hlt)
      · have h10 : e.2.2.2.2.length = 10 := by have := hz.2.2.2.2.1; omega
        exact pr_of (k := 0) ⟨by decide, by decide, by decide, by decide, by decide, fun _ => rfl, by first | exact fun _ => trivial | exact fun _ => Or.inl rfl | exact fun _ => Or.inr rfl | exact fun q => absurd q (by decide)⟩ hR (hok) (k_letter_ref o b s f l h (nI v) hC hz hh (Or.inr h10)) (fun n1 kd1 I1 J1 P1 hR1 => q_letter_ref (o + 69) h (nI v) hR1 hz hh (Or.inr h10))
    · exact pr_of (k := 0) ⟨by decide, by decide, by decide, by decide, by decide, fun _ => rfl, by first | exact fun _ => trivial | exact fun _ => Or.inl rfl | exact fun _ => Or.inr rfl | exact fun q => absurd q (by decide)⟩ hR (hok) (k_letter_ref o b s f l h y2 hC hz hh (Or.inl (nu_no hw))) (fun n1 kd1 I1 J1 P1 hR1 => q_letter_ref (o + 69) h y2 hR1 hz hh (Or.inl (nu_no hw)))
  · exact pr_of (k := 1) (v := 0) (w := nI 0) ⟨by decide, by decide, by decide, by decide, by decide, fun q => absurd q (by decide), by first | exact fun _ => trivial | exact fun _ => Or.inl rfl | exact fun _ => Or.inr rfl | exact fun q => absurd q (by decide)⟩ hR (hok) ((k_nh_letter o b s f l y1 y2 hC hz hn).mono (fun _ _ _ _ _ _ hx => pK.sm hC hx)) (fun n1 kd1 I1 J1 P1 hR1 => q_nh_letter (o + 69) y1 y2 hR1 hz hn)

set_option maxHeartbeats 4000000 in
set_option maxRecDepth 100000 in
theorem pr_unletter (o b s f l : Nat) {t : Nat} {T : Nat → Nat} {fp : Int32} {rr : Nat → Int32} {H M : Nat} {un : Bool} {cs : Nat → List Nat} {tx : Nat → List Int32} {e : Lf} {im : Option Lf} {wk : Option (List Nat)} {n : Nat} {kd : mK} {I : mI} {J : mJ} {P : mP} (hC : CR o b s f l n kd I J P t T fp rr H M un cs tx e im wk) (hok : okQ t T H M cs tx e) (hR : RR (o + 69) kd I P t T fp rr H M un cs tx e im wk) : Pr o n kd I J P yX9_unletter cX9_unletter 1 (some .int) yX10_unletter cX10_unletter 1 (some .int) [] 0 "" "" (fun _ => True) := by
  have hz := hok.1
  have hH8 : H ≤ 8 := hz.2.1.2.1
  have hM20 : M ≤ 20 := hz.2.1.1.2
  by_cases hne : e.2.2.2.2 = []
  · exact pr_of (k := 0) ⟨by decide, by decide, by decide, by decide, by decide, fun _ => rfl, by first | exact fun _ => trivial | exact fun _ => Or.inl rfl | exact fun _ => Or.inr rfl | exact fun q => absurd q (by decide)⟩ hR (hok) (k_unletter_no o b s f l  hC hz hne) (fun n1 kd1 I1 J1 P1 hR1 => q_unletter_no (o + 69)  hR1 hz hne)
  · exact pr_of (k := 0) ⟨by decide, by decide, by decide, by decide, by decide, fun _ => rfl, by first | exact fun _ => trivial | exact fun _ => Or.inl rfl | exact fun _ => Or.inr rfl | exact fun q => absurd q (by decide)⟩ hR (hok.e (okL_setL hz.2.2 (by rw [List.length_dropLast]; have := hz.2.2.2.2.1; omega) (fun q hq => hz.2.2.2.2.2 q ((List.dropLast_sublist _).subset hq)))) (k_unletter o b s f l  hC hz hne) (fun n1 kd1 I1 J1 P1 hR1 => q_unletter (o + 69)  hR1 hz hne)

set_option maxHeartbeats 4000000 in
set_option maxRecDepth 100000 in
theorem pr_restore (o b s f l : Nat) {t : Nat} {T : Nat → Nat} {fp : Int32} {rr : Nat → Int32} {H M : Nat} {un : Bool} {cs : Nat → List Nat} {tx : Nat → List Int32} {e : Lf} {im : Option Lf} {wk : Option (List Nat)} {n : Nat} {kd : mK} {I : mI} {J : mJ} {P : mP} (hC : CR o b s f l n kd I J P t T fp rr H M un cs tx e im wk) (hok : okQ t T H M cs tx e) (hR : RR (o + 69) kd I P t T fp rr H M un cs tx e im wk) : Pr o n kd I J P yX9_restore cX9_restore 1 (some .boolean) yX10_restore cX10_restore 1 (some .boolean) [] 0 "" "" (fun _ => True) := by
  have hz := hok.1
  have hH8 : H ≤ 8 := hz.2.1.2.1
  have hM20 : M ≤ 20 := hz.2.1.1.2
  cases im with
  | none => exact pr_of (k := 0) ⟨by decide, by decide, by decide, by decide, by decide, fun _ => rfl, by first | exact fun _ => trivial | exact fun _ => Or.inl rfl | exact fun _ => Or.inr rfl | exact fun q => absurd q (by decide)⟩ hR (hok) (k_restore_no o b s f l  hC hz ) (fun n1 kd1 I1 J1 P1 hR1 => q_restore_no (o + 69)  hR1 hz )
  | some e9 => exact pr_of (k := 0) ⟨by decide, by decide, by decide, by decide, by decide, fun _ => rfl, by first | exact fun _ => trivial | exact fun _ => Or.inl rfl | exact fun _ => Or.inr rfl | exact fun q => absurd q (by decide)⟩ hR (hok.e hC.im) (k_restore o b s f l  hC hz ) (fun n1 kd1 I1 J1 P1 hR1 => q_restore (o + 69)  hR1 hz hC.im)

set_option maxHeartbeats 4000000 in
set_option maxRecDepth 100000 in
theorem pr_number (o b s f l : Nat) (y1 : Int32) (y2 : Int32) {t : Nat} {T : Nat → Nat} {fp : Int32} {rr : Nat → Int32} {H M : Nat} {un : Bool} {cs : Nat → List Nat} {tx : Nat → List Int32} {e : Lf} {im : Option Lf} {wk : Option (List Nat)} {n : Nat} {kd : mK} {I : mI} {J : mJ} {P : mP} (hC : CR o b s f l n kd I J P t T fp rr H M un cs tx e im wk) (hok : okQ t T H M cs tx e) (hR : RR (o + 69) kd I P t T fp rr H M un cs tx e im wk) : Pr o n kd I J P yX9_number cX9_number 3 (some .int) yX10_number cX10_number 4 (some .int) [.int y1, .int y2] 1 "java/util/NoSuchElementException" "" (fun _ => True) := by
  have hz := hok.1
  have hH8 : H ≤ 8 := hz.2.1.2.1
  have hM20 : M ≤ 20 := hz.2.1.1.2
  rcases hs_cs y2 hH8 with ⟨h, hh, rfl⟩ | hn
  · by_cases hx : gdN H M un cs e = false ∨ (!decide (y1 < 0) && decide (y1 < nI (fsN H M un cs e).length)) = false
    · exact pr_of (k := 1) (v := 0) (w := nI 0) ⟨by decide, by decide, by decide, by decide, by decide, fun q => absurd q (by decide), by first | exact fun _ => trivial | exact fun _ => Or.inl rfl | exact fun _ => Or.inr rfl | exact fun q => absurd q (by decide)⟩ hR (hok) (k_number_no o b s f l y1 h hC hz hh hx) (fun n1 kd1 I1 J1 P1 hR1 => q_number_no (o + 69) y1 h hR1 hz hh hx)
    · have hg : gdN H M un cs e = true := by
        cases q : gdN H M un cs e
        · exact absurd (Or.inl q) hx
        · rfl
      have hi : (!decide (y1 < 0) && decide (y1 < nI (fsN H M un cs e).length)) = true := by
        cases q : (!decide (y1 < 0) && decide (y1 < nI (fsN H M un cs e).length))
        · exact absurd (Or.inr q) hx
        · rfl
      have hl : (fsN H M un cs e).length ≤ 1000 := gd_len hg
      obtain ⟨i, hi9, rfl⟩ := isH (by omega) hi
      exact pr_of (k := 0) ⟨by decide, by decide, by decide, by decide, by decide, fun _ => rfl, by first | exact fun _ => trivial | exact fun _ => Or.inl rfl | exact fun _ => Or.inr rfl | exact fun q => absurd q (by decide)⟩ hR (hok) (k_number o b s f l i h hC hz hh hg hi9) (fun n1 kd1 I1 J1 P1 hR1 => q_number (o + 69) i h hR1 hz hh hg hi9)
  · exact pr_of (k := 1) (v := 0) (w := nI 0) ⟨by decide, by decide, by decide, by decide, by decide, fun q => absurd q (by decide), by first | exact fun _ => trivial | exact fun _ => Or.inl rfl | exact fun _ => Or.inr rfl | exact fun q => absurd q (by decide)⟩ hR (hok) ((k_nh_number o b s f l y1 y2 hC hz hn).mono (fun _ _ _ _ _ _ hx => pK.sm hC hx)) (fun n1 kd1 I1 J1 P1 hR1 => q_nh_number (o + 69) y1 y2 hR1 hz hn)

set_option maxHeartbeats 4000000 in
set_option maxRecDepth 100000 in
theorem pr_may (o b s f l : Nat) (y1 : Int32) {t : Nat} {T : Nat → Nat} {fp : Int32} {rr : Nat → Int32} {H M : Nat} {un : Bool} {cs : Nat → List Nat} {tx : Nat → List Int32} {e : Lf} {im : Option Lf} {wk : Option (List Nat)} {n : Nat} {kd : mK} {I : mI} {J : mJ} {P : mP} (hC : CR o b s f l n kd I J P t T fp rr H M un cs tx e im wk) (hok : okQ t T H M cs tx e) (hR : RR (o + 69) kd I P t T fp rr H M un cs tx e im wk) : Pr o n kd I J P yX9_may cX9_may 2 (some .int) yX10_may cX10_may 2 (some .int) [.int y1] 1 "java/util/NoSuchElementException" "" (fun _ => True) := by
  have hz := hok.1
  have hH8 : H ≤ 8 := hz.2.1.2.1
  have hM20 : M ≤ 20 := hz.2.1.1.2
  rcases hs_cs y1 hH8 with ⟨h, hh, rfl⟩ | hn
  · exact pr_of (k := 0) ⟨by decide, by decide, by decide, by decide, by decide, fun _ => rfl, by first | exact fun _ => trivial | exact fun _ => Or.inl rfl | exact fun _ => Or.inr rfl | exact fun q => absurd q (by decide)⟩ hR (hok) (k_may o b s f l h hC hz hh) (fun n1 kd1 I1 J1 P1 hR1 => q_may (o + 69) h hR1 hz hh)
  · exact pr_of (k := 1) (v := 0) (w := nI 0) ⟨by decide, by decide, by decide, by decide, by decide, fun q => absurd q (by decide), by first | exact fun _ => trivial | exact fun _ => Or.inl rfl | exact fun _ => Or.inr rfl | exact fun q => absurd q (by decide)⟩ hR (hok) ((k_nh_may o b s f l y1 hC hz hn).mono (fun _ _ _ _ _ _ hx => pK.sm hC hx)) (fun n1 kd1 I1 J1 P1 hR1 => q_nh_may (o + 69) y1 hR1 hz hn)

set_option maxHeartbeats 4000000 in
set_option maxRecDepth 100000 in
theorem pr_holds (o b s f l : Nat) (y1 : Int32) (y2 : Int64) {t : Nat} {T : Nat → Nat} {fp : Int32} {rr : Nat → Int32} {H M : Nat} {un : Bool} {cs : Nat → List Nat} {tx : Nat → List Int32} {e : Lf} {im : Option Lf} {wk : Option (List Nat)} {n : Nat} {kd : mK} {I : mI} {J : mJ} {P : mP} (hC : CR o b s f l n kd I J P t T fp rr H M un cs tx e im wk) (hok : okQ t T H M cs tx e) (hR : RR (o + 69) kd I P t T fp rr H M un cs tx e im wk) : Pr o n kd I J P yX9_holds cX9_holds 4 (some .int) yX10_holds cX10_holds 5 (some .int) [.int y1, .long y2] 2 "java/util/NoSuchElementException" "java/lang/IllegalArgumentException" (fun _ => True) := by
  have hz := hok.1
  have hH8 : H ≤ 8 := hz.2.1.2.1
  have hM20 : M ≤ 20 := hz.2.1.1.2
  rcases hs_cs y1 hH8 with ⟨h, hh, rfl⟩ | hn
  · by_cases hy : y2 < 0
    · exact pr_of (k := 2) (v := 0) (w := nI 0) ⟨by decide, by decide, by decide, by decide, by decide, fun q => absurd q (by decide), by first | exact fun _ => trivial | exact fun _ => Or.inl rfl | exact fun _ => Or.inr rfl | exact fun q => absurd q (by decide)⟩ hR (hok) (k_holds_neg o b s f l h y2 hC hz hh hy) (fun n1 kd1 I1 J1 P1 hR1 => q_holds_neg (o + 69) h y2 hR1 hz hh hy)
    · by_cases hr : rwOk y2 M H = true
      · by_cases hcs : cs h = []
        · exact pr_of (k := 0) ⟨by decide, by decide, by decide, by decide, by decide, fun _ => rfl, by first | exact fun _ => trivial | exact fun _ => Or.inl rfl | exact fun _ => Or.inr rfl | exact fun q => absurd q (by decide)⟩ hR (hok) (k_holds_none o b s f l h y2 hC hz hh hy hr hcs) (fun n1 kd1 I1 J1 P1 hR1 => q_holds_none (o + 69) h y2 hR1 hz hh hy hr hcs)
        · exact pr_of (k := 0) ⟨by decide, by decide, by decide, by decide, by decide, fun _ => rfl, by first | exact fun _ => trivial | exact fun _ => Or.inl rfl | exact fun _ => Or.inr rfl | exact fun q => absurd q (by decide)⟩ hR (hok) (k_holds o b s f l h y2 hC hz hh hy hr hcs) (fun n1 kd1 I1 J1 P1 hR1 => q_holds (o + 69) h y2 hR1 hz hh hy hr hcs)
      · have hr0 : rwOk y2 M H = false := by simpa using hr
        exact pr_of (k := 2) (v := 0) (w := nI 0) ⟨by decide, by decide, by decide, by decide, by decide, fun q => absurd q (by decide), by first | exact fun _ => trivial | exact fun _ => Or.inl rfl | exact fun _ => Or.inr rfl | exact fun q => absurd q (by decide)⟩ hR (hok) (k_holds_bad o b s f l h y2 hC hz hh hy hr0) (fun n1 kd1 I1 J1 P1 hR1 => q_holds_bad (o + 69) h y2 hR1 hz hh hy hr0)
  · exact pr_of (k := 1) (v := 0) (w := nI 0) ⟨by decide, by decide, by decide, by decide, by decide, fun q => absurd q (by decide), by first | exact fun _ => trivial | exact fun _ => Or.inl rfl | exact fun _ => Or.inr rfl | exact fun q => absurd q (by decide)⟩ hR (hok) ((k_nh_holds o b s f l y1 y2 hC hz hn).mono (fun _ _ _ _ _ _ hx => pK.sm hC hx)) (fun n1 kd1 I1 J1 P1 hR1 => q_nh_holds (o + 69) y1 y2 hR1 hz hn)

set_option maxHeartbeats 4000000 in
set_option maxRecDepth 100000 in
theorem pr_looks (o b s f l : Nat) (y1 : Int32) {t : Nat} {T : Nat → Nat} {fp : Int32} {rr : Nat → Int32} {H M : Nat} {un : Bool} {cs : Nat → List Nat} {tx : Nat → List Int32} {e : Lf} {im : Option Lf} {wk : Option (List Nat)} {n : Nat} {kd : mK} {I : mI} {J : mJ} {P : mP} (hC : CR o b s f l n kd I J P t T fp rr H M un cs tx e im wk) (hok : okQ t T H M cs tx e) (hR : RR (o + 69) kd I P t T fp rr H M un cs tx e im wk) (ho9 : o + 125 < n) (hn9 : n < 1000000) : Pr o n kd I J P yX9_looks cX9_looks 3 (some .int) yX10_looks cX10_looks 6 (some .int) [.int y1] 1 "java/util/NoSuchElementException" "" (fun _ => True) := by
  have hz := hok.1
  have hH8 : H ≤ 8 := hz.2.1.2.1
  have hM20 : M ≤ 20 := hz.2.1.1.2
  rcases rg y1 1 (by decide) with ⟨w, hw1, rfl⟩ | hn
  · have hw : fwB (zN H M un cs e) = false ∨ fwB (zN H M un cs e) = true := by cases fwB (zN H M un cs e) <;> simp
    rcases hw with hw | hw
    · exact pr_of (k := 0) ⟨by decide, by decide, by decide, by decide, by decide, fun _ => rfl, by first | exact fun _ => trivial | exact fun _ => Or.inl rfl | exact fun _ => Or.inr rfl | exact fun q => absurd q (by decide)⟩ hR (hok) (k_looks_sp o b s f l w hC hz (by omega) hw) (fun n1 kd1 I1 J1 P1 hR1 => q_looks_sp (o + 69) w hR1 hz (by omega) hw)
    · rcases (show w = 0 ∨ w = 1 by omega) with rfl | rfl
      · exact pr_of (k := 0) ⟨by decide, by decide, by decide, by decide, by decide, fun _ => rfl, by first | exact fun _ => trivial | exact fun _ => Or.inl rfl | exact fun _ => Or.inr rfl | exact fun q => absurd q (by decide)⟩ hR (hok) (k_looks o b s f l 0 hC hz ho9 hn9 (by decide) hw) (fun n1 kd1 I1 J1 P1 hR1 => q_looks_0 (o + 69)  hR1 hz hw)
      · exact pr_of (k := 0) ⟨by decide, by decide, by decide, by decide, by decide, fun _ => rfl, by first | exact fun _ => trivial | exact fun _ => Or.inl rfl | exact fun _ => Or.inr rfl | exact fun q => absurd q (by decide)⟩ hR (hok) (k_looks o b s f l 1 hC hz ho9 hn9 (by decide) hw) (fun n1 kd1 I1 J1 P1 hR1 => q_looks_1 (o + 69)  hR1 hz hw)
  · exact pr_of (k := 1) (v := 0) (w := nI 0) ⟨by decide, by decide, by decide, by decide, by decide, fun q => absurd q (by decide), by first | exact fun _ => trivial | exact fun _ => Or.inl rfl | exact fun _ => Or.inr rfl | exact fun q => absurd q (by decide)⟩ hR (hok) ((k_looks_no o b s f l y1 hC hz (rg_h (by decide) hn)).mono (fun _ _ _ _ _ _ hx => pK.sm hC hx)) (fun n1 kd1 I1 J1 P1 hR1 => q_looks_no (o + 69) y1 hR1 hz (rg_2 hn))

set_option maxHeartbeats 4000000 in
set_option maxRecDepth 100000 in
theorem pr_doors (o b s f l : Nat) {t : Nat} {T : Nat → Nat} {fp : Int32} {rr : Nat → Int32} {H M : Nat} {un : Bool} {cs : Nat → List Nat} {tx : Nat → List Int32} {e : Lf} {im : Option Lf} {wk : Option (List Nat)} {n : Nat} {kd : mK} {I : mI} {J : mJ} {P : mP} (hC : CR o b s f l n kd I J P t T fp rr H M un cs tx e im wk) (hok : okQ t T H M cs tx e) (hR : RR (o + 69) kd I P t T fp rr H M un cs tx e im wk) : Pr o n kd I J P yX9_doors cX9_doors 1 (some .int) yX10_doors cX10_doors 1 (some .int) [] 0 "" "" (fun _ => True) := by
  have hz := hok.1
  have hH8 : H ≤ 8 := hz.2.1.2.1
  have hM20 : M ≤ 20 := hz.2.1.1.2
  have hw : fwB (zN H M un cs e) = false ∨ fwB (zN H M un cs e) = true := by cases fwB (zN H M un cs e) <;> simp
  rcases hw with hw | hw
  · exact pr_of (k := 0) ⟨by decide, by decide, by decide, by decide, by decide, fun _ => rfl, by first | exact fun _ => trivial | exact fun _ => Or.inl rfl | exact fun _ => Or.inr rfl | exact fun q => absurd q (by decide)⟩ hR (hok) (k_doors_sp o b s f l  hC hz hw) (fun n1 kd1 I1 J1 P1 hR1 => q_doors_sp (o + 69)  hR1 hz hw)
  · exact pr_of (k := 0) ⟨by decide, by decide, by decide, by decide, by decide, fun _ => rfl, by first | exact fun _ => trivial | exact fun _ => Or.inl rfl | exact fun _ => Or.inr rfl | exact fun q => absurd q (by decide)⟩ hR (hok) (k_doors o b s f l  hC hz hw) (fun n1 kd1 I1 J1 P1 hR1 => q_doors (o + 69)  hR1 hz hw)

set_option maxHeartbeats 4000000 in
set_option maxRecDepth 100000 in
theorem pr_hints (o b s f l : Nat) (y1 : Int32) {t : Nat} {T : Nat → Nat} {fp : Int32} {rr : Nat → Int32} {H M : Nat} {un : Bool} {cs : Nat → List Nat} {tx : Nat → List Int32} {e : Lf} {im : Option Lf} {wk : Option (List Nat)} {n : Nat} {kd : mK} {I : mI} {J : mJ} {P : mP} (hC : CR o b s f l n kd I J P t T fp rr H M un cs tx e im wk) (hok : okQ t T H M cs tx e) (hR : RR (o + 69) kd I P t T fp rr H M un cs tx e im wk) : Pr o n kd I J P yX9_hints cX9_hints 2 (some .int) yX10_hints cX10_hints 2 (some .int) [.int y1] 1 "java/util/NoSuchElementException" "" (fun _ => True) := by
  have hz := hok.1
  have hH8 : H ≤ 8 := hz.2.1.2.1
  have hM20 : M ≤ 20 := hz.2.1.1.2
  have hw : fwB (zN H M un cs e) = false ∨ fwB (zN H M un cs e) = true := by cases fwB (zN H M un cs e) <;> simp
  rcases hw with hw | hw
  · exact pr_of (k := 0) ⟨by decide, by decide, by decide, by decide, by decide, fun _ => rfl, by first | exact fun _ => trivial | exact fun _ => Or.inl rfl | exact fun _ => Or.inr rfl | exact fun q => absurd q (by decide)⟩ hR (hok) (k_hints_sp o b s f l y1 hC hz hw) (fun n1 kd1 I1 J1 P1 hR1 => q_hints_sp (o + 69) y1 hR1 hz hw)
  · by_cases hy : ¬ y1 < 0 ∧ y1 < nI (fsN H M un cs e).length
    · have hl : (fsN H M un cs e).length ≤ 40 := (fw_gd.mp hw).2
      obtain ⟨i, hi, rfl⟩ := isH (H := (fsN H M un cs e).length) (x := y1) (by omega) (by rw [decide_eq_false hy.1, decide_eq_true hy.2]; rfl)
      exact pr_of (k := 0) ⟨by decide, by decide, by decide, by decide, by decide, fun _ => rfl, by first | exact fun _ => trivial | exact fun _ => Or.inl rfl | exact fun _ => Or.inr rfl | exact fun q => absurd q (by decide)⟩ hR (hok) (k_hints o b s f l i hC hz hw hi) (fun n1 kd1 I1 J1 P1 hR1 => q_hints (o + 69) i hR1 hz hw hi)
    · exact pr_of (k := 1) (v := 0) (w := nI 0) ⟨by decide, by decide, by decide, by decide, by decide, fun q => absurd q (by decide), by first | exact fun _ => trivial | exact fun _ => Or.inl rfl | exact fun _ => Or.inr rfl | exact fun q => absurd q (by decide)⟩ hR (hok) (k_hints_no o b s f l y1 hC hz hw hy) (fun n1 kd1 I1 J1 P1 hR1 => q_hints_no (o + 69) y1 hR1 hz hw hy)

set_option maxHeartbeats 4000000 in
set_option maxRecDepth 100000 in
theorem pr_post (o b s f l : Nat) (y1 : Int32) (y2 : Int32) {t : Nat} {T : Nat → Nat} {fp : Int32} {rr : Nat → Int32} {H M : Nat} {un : Bool} {cs : Nat → List Nat} {tx : Nat → List Int32} {e : Lf} {im : Option Lf} {wk : Option (List Nat)} {n : Nat} {kd : mK} {I : mI} {J : mJ} {P : mP} (hC : CR o b s f l n kd I J P t T fp rr H M un cs tx e im wk) (hok : okQ t T H M cs tx e) (hR : RR (o + 69) kd I P t T fp rr H M un cs tx e im wk) : Pr o n kd I J P yX9_post cX9_post 6 (some .int) yX10_post cX10_post 8 (some .int) [.int y1, .int y2] 2 "java/util/NoSuchElementException" "java/lang/IllegalArgumentException" (fun _ => True) := by
  have hz := hok.1
  have hH8 : H ≤ 8 := hz.2.1.2.1
  have hM20 : M ≤ 20 := hz.2.1.1.2
  rcases hs_cs y1 hH8 with ⟨h, hh, rfl⟩ | hn
  · rcases nu_cs y2 hM20 with ⟨p, hp1, hp, rfl⟩ | hw
    · have hg : gdN H M un cs e = false ∨ gdN H M un cs e = true := by cases gdN H M un cs e <;> simp
      rcases hg with hg | hg
      · exact pr_of (k := 0) ⟨by decide, by decide, by decide, by decide, by decide, fun _ => rfl, by first | exact fun _ => trivial | exact fun _ => Or.inl rfl | exact fun _ => Or.inr rfl | exact fun q => absurd q (by decide)⟩ hR (hok) (k_post_sp o b s f l h p hC hz hh hp1 hp hg) (fun n1 kd1 I1 J1 P1 hR1 => q_post_sp (o + 69) h p hR1 hz hh hp1 hp hg)
      · by_cases hw : mayN (fsN H M un cs e) h = 0
        · exact pr_of (k := 0) ⟨by decide, by decide, by decide, by decide, by decide, fun _ => rfl, by first | exact fun _ => trivial | exact fun _ => Or.inl rfl | exact fun _ => Or.inr rfl | exact fun q => absurd q (by decide)⟩ hR (hok) (k_post_0 o b s f l h p hC hz hh hp1 hp hg hw) (fun n1 kd1 I1 J1 P1 hR1 => q_post_0 (o + 69) h p hR1 hz hh hp1 hp hg hw)
        · obtain ⟨lo, hi, hb⟩ := lhB_ex hw
          exact pr_of (k := 0) ⟨by decide, by decide, by decide, by decide, by decide, fun _ => rfl, by first | exact fun _ => trivial | exact fun _ => Or.inl rfl | exact fun _ => Or.inr rfl | exact fun q => absurd q (by decide)⟩ hR (hok) (k_post o b s f l h p lo hi hC hz hh hp1 hp hg hb) (fun n1 kd1 I1 J1 P1 hR1 => q_post (o + 69) h p lo hi hR1 hz hh hp1 hp hg hb)
    · exact pr_of (k := 2) (v := 0) (w := nI 0) ⟨by decide, by decide, by decide, by decide, by decide, fun q => absurd q (by decide), by first | exact fun _ => trivial | exact fun _ => Or.inl rfl | exact fun _ => Or.inr rfl | exact fun q => absurd q (by decide)⟩ hR (hok) ((k_post_no o b s f l h y2 hC hz hh hw).mono (fun _ _ _ _ _ _ hx => pK.sm hC hx)) (fun n1 kd1 I1 J1 P1 hR1 => q_post_no (o + 69) h y2 hR1 hz hh hw)
  · exact pr_of (k := 1) (v := 0) (w := nI 0) ⟨by decide, by decide, by decide, by decide, by decide, fun q => absurd q (by decide), by first | exact fun _ => trivial | exact fun _ => Or.inl rfl | exact fun _ => Or.inr rfl | exact fun q => absurd q (by decide)⟩ hR (hok) ((k_nh_post o b s f l y1 y2 hC hz hn).mono (fun _ _ _ _ _ _ hx => pK.sm hC hx)) (fun n1 kd1 I1 J1 P1 hR1 => q_nh_post (o + 69) y1 y2 hR1 hz hn)

set_option maxHeartbeats 4000000 in
set_option maxRecDepth 100000 in
theorem pr_feud (o b s f l : Nat) (y1 : Int32) (y2 : Int32) (y3 : Int32) {t : Nat} {T : Nat → Nat} {fp : Int32} {rr : Nat → Int32} {H M : Nat} {un : Bool} {cs : Nat → List Nat} {tx : Nat → List Int32} {e : Lf} {im : Option Lf} {wk : Option (List Nat)} {n : Nat} {kd : mK} {I : mI} {J : mJ} {P : mP} (hC : CR o b s f l n kd I J P t T fp rr H M un cs tx e im wk) (hok : okQ t T H M cs tx e) (hR : RR (o + 69) kd I P t T fp rr H M un cs tx e im wk) : Pr o n kd I J P yX9_feud cX9_feud 4 (some .int) yX10_feud cX10_feud 7 (some .int) [.int y1, .int y2, .int y3] 2 "java/util/NoSuchElementException" "java/lang/IllegalArgumentException" (fun _ => True) := by
  have hz := hok.1
  have hH8 : H ≤ 8 := hz.2.1.2.1
  have hM20 : M ≤ 20 := hz.2.1.1.2
  rcases hs_cs y1 hH8 with ⟨h1, ha, rfl⟩ | hn
  · rcases hs_cs y2 hH8 with ⟨h2, hb, rfl⟩ | hn
    · rcases rg y3 1 (by decide) with ⟨k, hk, rfl⟩ | hw
      · by_cases hne : h1 = h2
        · subst hne
          exact pr_of (k := 2) (v := 0) (w := nI 0) ⟨by decide, by decide, by decide, by decide, by decide, fun q => absurd q (by decide), by first | exact fun _ => trivial | exact fun _ => Or.inl rfl | exact fun _ => Or.inr rfl | exact fun q => absurd q (by decide)⟩ hR (hok) ((k_feud_same o b s f l h1 k hC hz ha (by omega)).mono (fun _ _ _ _ _ _ hx => pK.sm hC hx)) (fun n1 kd1 I1 J1 P1 hR1 => q_feud_same (o + 69) h1 k hR1 hz ha (by omega))
        · exact pr_of (k := 0) ⟨by decide, by decide, by decide, by decide, by decide, fun _ => rfl, by first | exact fun _ => trivial | exact fun _ => Or.inl rfl | exact fun _ => Or.inr rfl | exact fun q => absurd q (by decide)⟩ hR (hok) (k_feud o b s f l h1 h2 k hC hz ha hb (by omega) hne) (fun n1 kd1 I1 J1 P1 hR1 => q_feud (o + 69) h1 h2 k hR1 hz ha hb (by omega) hne)
      · exact pr_of (k := 1) (v := 0) (w := nI 0) ⟨by decide, by decide, by decide, by decide, by decide, fun q => absurd q (by decide), by first | exact fun _ => trivial | exact fun _ => Or.inl rfl | exact fun _ => Or.inr rfl | exact fun q => absurd q (by decide)⟩ hR (hok) ((k_feud_no o b s f l h1 h2 y3 hC hz ha hb (rg_h (by decide) hw)).mono (fun _ _ _ _ _ _ hx => pK.sm hC hx)) (fun n1 kd1 I1 J1 P1 hR1 => q_feud_no (o + 69) h1 h2 y3 hR1 hz ha hb (rg_h (by decide) hw))
    · exact pr_of (k := 1) (v := 0) (w := nI 0) ⟨by decide, by decide, by decide, by decide, by decide, fun q => absurd q (by decide), by first | exact fun _ => trivial | exact fun _ => Or.inl rfl | exact fun _ => Or.inr rfl | exact fun q => absurd q (by decide)⟩ hR (hok) ((k_feud_no2 o b s f l h1 y2 y3 hC hz ha hn).mono (fun _ _ _ _ _ _ hx => pK.sm hC hx)) (fun n1 kd1 I1 J1 P1 hR1 => q_feud_no2 (o + 69) h1 y2 y3 hR1 hz ha hn)
  · exact pr_of (k := 1) (v := 0) (w := nI 0) ⟨by decide, by decide, by decide, by decide, by decide, fun q => absurd q (by decide), by first | exact fun _ => trivial | exact fun _ => Or.inl rfl | exact fun _ => Or.inr rfl | exact fun q => absurd q (by decide)⟩ hR (hok) ((k_nh_feud o b s f l y1 y2 y3 hC hz hn).mono (fun _ _ _ _ _ _ hx => pK.sm hC hx)) (fun n1 kd1 I1 J1 P1 hR1 => q_nh_feud (o + 69) y1 y2 y3 hR1 hz hn)

set_option maxHeartbeats 4000000 in
set_option maxRecDepth 100000 in
theorem pr_years (o b s f l : Nat) (y1 : Int32) (y2 : Int32) {t : Nat} {T : Nat → Nat} {fp : Int32} {rr : Nat → Int32} {H M : Nat} {un : Bool} {cs : Nat → List Nat} {tx : Nat → List Int32} {e : Lf} {im : Option Lf} {wk : Option (List Nat)} {n : Nat} {kd : mK} {I : mI} {J : mJ} {P : mP} (hC : CR o b s f l n kd I J P t T fp rr H M un cs tx e im wk) (hok : okQ t T H M cs tx e) (hR : RR (o + 69) kd I P t T fp rr H M un cs tx e im wk) : Pr o n kd I J P yX9_years cX9_years 7 (some .int) yX10_years cX10_years 8 (some .int) [.int y1, .int y2] 1 "java/lang/IllegalArgumentException" "" (fun _ => True) := by
  have hz := hok.1
  have hH8 : H ≤ 8 := hz.2.1.2.1
  have hM20 : M ≤ 20 := hz.2.1.1.2
  rcases rg y2 30 (by decide) with ⟨Y, hY, rfl⟩ | hn
  · by_cases hH0 : H = 0
    · exact pr_of (k := 0) ⟨by decide, by decide, by decide, by decide, by decide, fun _ => rfl, by first | exact fun _ => trivial | exact fun _ => Or.inl rfl | exact fun _ => Or.inr rfl | exact fun q => absurd q (by decide)⟩ hR (hok) (k_years_0 o b s f l (nI Y) y1 hC hz hH0 (z_nlt (by omega)) (by rw [nI_ltI (by decide) (by omega)]; omega)) (fun n1 kd1 I1 J1 P1 hR1 => q_years_0 (o + 69) (nI Y) y1 hR1 hz hH0 (z_nlt (by omega)) (by rw [nI_ltI (by decide) (by omega)]; omega))
    · exact pr_of (k := 0) ⟨by decide, by decide, by decide, by decide, by decide, fun _ => rfl, by first | exact fun _ => trivial | exact fun _ => Or.inl rfl | exact fun _ => Or.inr rfl | exact fun q => absurd q (by decide)⟩ hR (hok) (k_years o b s f l Y y1 hC hz (by omega) hY) (fun n1 kd1 I1 J1 P1 hR1 => q_years (o + 69) Y y1 hR1 hz (by omega) hY)
  · exact pr_of (k := 1) (v := 0) (w := nI 0) ⟨by decide, by decide, by decide, by decide, by decide, fun q => absurd q (by decide), by first | exact fun _ => trivial | exact fun _ => Or.inl rfl | exact fun _ => Or.inr rfl | exact fun q => absurd q (by decide)⟩ hR (hok) ((k_years_no o b s f l y2 y1 hC hz hn).mono (fun _ _ _ _ _ _ hx => pK.sm hC hx)) (fun n1 kd1 I1 J1 P1 hR1 => q_years_no (o + 69) y2 y1 hR1 hz hn)

set_option maxHeartbeats 4000000 in
set_option maxRecDepth 100000 in
theorem pr_proof (o b s f l : Nat) (y1 : Int32) {t : Nat} {T : Nat → Nat} {fp : Int32} {rr : Nat → Int32} {H M : Nat} {un : Bool} {cs : Nat → List Nat} {tx : Nat → List Int32} {e : Lf} {im : Option Lf} {wk : Option (List Nat)} {n : Nat} {kd : mK} {I : mI} {J : mJ} {P : mP} (hC : CR o b s f l n kd I J P t T fp rr H M un cs tx e im wk) (hok : okQ t T H M cs tx e) (hR : RR (o + 69) kd I P t T fp rr H M un cs tx e im wk) : Pr o n kd I J P yX9_proof cX9_proof 2 (some .int) yX10_proof cX10_proof 6 (some .int) [.int y1] 1 "java/util/NoSuchElementException" "" (fun _ => True) := by
  have hz := hok.1
  have hH8 : H ≤ 8 := hz.2.1.2.1
  have hM20 : M ≤ 20 := hz.2.1.1.2
  rcases hs_cs y1 hH8 with ⟨h, hh, rfl⟩ | hn
  · exact pr_of (k := 0) ⟨by decide, by decide, by decide, by decide, by decide, fun _ => rfl, by first | exact fun _ => trivial | exact fun _ => Or.inl rfl | exact fun _ => Or.inr rfl | exact fun q => absurd q (by decide)⟩ hR (hok) (k_proof o b s f l h hC hz hh) (fun n1 kd1 I1 J1 P1 hR1 => q_proof (o + 69) h hR1 hz hh)
  · exact pr_of (k := 1) (v := 0) (w := nI 0) ⟨by decide, by decide, by decide, by decide, by decide, fun q => absurd q (by decide), by first | exact fun _ => trivial | exact fun _ => Or.inl rfl | exact fun _ => Or.inr rfl | exact fun q => absurd q (by decide)⟩ hR (hok) ((k_nh_proof o b s f l y1 hC hz hn).mono (fun _ _ _ _ _ _ hx => pK.sm hC hx)) (fun n1 kd1 I1 J1 P1 hR1 => q_nh_proof (o + 69) y1 hR1 hz hn)

set_option maxHeartbeats 4000000 in
set_option maxRecDepth 100000 in
theorem pr_build (o b s f l : Nat) (y1 : Int32) {t : Nat} {T : Nat → Nat} {fp : Int32} {rr : Nat → Int32} {H M : Nat} {un : Bool} {cs : Nat → List Nat} {tx : Nat → List Int32} {e : Lf} {im : Option Lf} {wk : Option (List Nat)} {n : Nat} {kd : mK} {I : mI} {J : mJ} {P : mP} (hC : CR o b s f l n kd I J P t T fp rr H M un cs tx e im wk) (hok : okQ t T H M cs tx e) (hR : RR (o + 69) kd I P t T fp rr H M un cs tx e im wk) : Pr o n kd I J P yX9_build cX9_build 2 (some .int) yX10_build cX10_build 3 (some .int) [.int y1] 2 "java/util/NoSuchElementException" "java/lang/IllegalArgumentException" (fun _ => True) := by
  have hz := hok.1
  have hH8 : H ≤ 8 := hz.2.1.2.1
  have hM20 : M ≤ 20 := hz.2.1.1.2
  rcases rg y1 1 (by decide) with ⟨w, hw, rfl⟩ | hn
  · by_cases hH7 : H < 8
    · exact pr_of (k := 0) ⟨by decide, by decide, by decide, by decide, by decide, fun _ => rfl, by first | exact fun _ => trivial | exact fun _ => Or.inl rfl | exact fun _ => Or.inr rfl | exact fun q => absurd q (by decide)⟩ hR (hok) (k_build o b s f l w hC hz (by omega) hH7) (fun n1 kd1 I1 J1 P1 hR1 => q_build (o + 69) w hR1 hz (by omega) hH7)
    · exact pr_of (k := 2) (v := 0) (w := nI 0) ⟨by decide, by decide, by decide, by decide, by decide, fun q => absurd q (by decide), by first | exact fun _ => trivial | exact fun _ => Or.inl rfl | exact fun _ => Or.inr rfl | exact fun q => absurd q (by decide)⟩ hR (hok) ((k_build_no2 o b s f l w hC hz (by omega) (by omega)).mono (fun _ _ _ _ _ _ hx => pK.sm hC hx)) (fun n1 kd1 I1 J1 P1 hR1 => q_build_no2 (o + 69) w hR1 hz (by omega) (by omega))
  · exact pr_of (k := 1) (v := 0) (w := nI 0) ⟨by decide, by decide, by decide, by decide, by decide, fun q => absurd q (by decide), by first | exact fun _ => trivial | exact fun _ => Or.inl rfl | exact fun _ => Or.inr rfl | exact fun q => absurd q (by decide)⟩ hR (hok) ((k_build_no1 o b s f l y1 hC hz (rg_h (by decide) hn)).mono (fun _ _ _ _ _ _ hx => pK.sm hC hx)) (fun n1 kd1 I1 J1 P1 hR1 => q_build_no1 (o + 69) y1 hR1 hz (rg_2 hn))

set_option maxHeartbeats 4000000 in
set_option maxRecDepth 100000 in
theorem pr_changed (o b s f l : Nat) (y1 : Int32) (y2 : Int32) (y3 : Int32) (y4 : Int32) {t : Nat} {T : Nat → Nat} {fp : Int32} {rr : Nat → Int32} {H M : Nat} {un : Bool} {cs : Nat → List Nat} {tx : Nat → List Int32} {e : Lf} {im : Option Lf} {wk : Option (List Nat)} {n : Nat} {kd : mK} {I : mI} {J : mJ} {P : mP} (hC : CR o b s f l n kd I J P t T fp rr H M un cs tx e im wk) (hok : okQ t T H M cs tx e) (hR : RR (o + 69) kd I P t T fp rr H M un cs tx e im wk) : Pr o n kd I J P yX9_changed cX9_changed 6 (some .int) yX10_changed cX10_changed 11 (some .int) [.int y1, .int y2, .int y3, .int y4] 2 "java/util/NoSuchElementException" "java/lang/IllegalArgumentException" (fun _ => True) := by
  have hz := hok.1
  have hH8 : H ≤ 8 := hz.2.1.2.1
  have hM20 : M ≤ 20 := hz.2.1.1.2
  rcases hs_cs y1 hH8 with ⟨h, hh, rfl⟩ | hn
  · rcases rg y2 1 (by decide) with ⟨k, hk, rfl⟩ | hn
    · rcases rg y4 1 (by decide) with ⟨w, hw, rfl⟩ | hn
      · rcases rg y3 99 (by decide) with ⟨v, hv, rfl⟩ | hv
        · exact pr_of (k := 0) ⟨by decide, by decide, by decide, by decide, by decide, fun _ => rfl, by first | exact fun _ => trivial | exact fun _ => Or.inl rfl | exact fun _ => Or.inr rfl | exact fun q => absurd q (by decide)⟩ hR (hok) (k_changed o b s f l h k v w hC hz hh (by omega) (by omega) hv) (fun n1 kd1 I1 J1 P1 hR1 => q_changed (o + 69) h k v w hR1 hz hh (by omega) (by omega) hv)
        · exact pr_of (k := 2) (v := 0) (w := nI 0) ⟨by decide, by decide, by decide, by decide, by decide, fun q => absurd q (by decide), by first | exact fun _ => trivial | exact fun _ => Or.inl rfl | exact fun _ => Or.inr rfl | exact fun q => absurd q (by decide)⟩ hR (hok) ((k_changed_no3 o b s f l h k w y3 hC hz hh (by omega) (by omega) hv).mono (fun _ _ _ _ _ _ hx => pK.sm hC hx)) (fun n1 kd1 I1 J1 P1 hR1 => q_changed_no3 (o + 69) h k w y3 hR1 hz hh (by omega) (by omega) hv)
      · exact pr_of (k := 1) (v := 0) (w := nI 0) ⟨by decide, by decide, by decide, by decide, by decide, fun q => absurd q (by decide), by first | exact fun _ => trivial | exact fun _ => Or.inl rfl | exact fun _ => Or.inr rfl | exact fun q => absurd q (by decide)⟩ hR (hok) ((k_changed_no2 o b s f l h k y3 y4 hC hz hh (by omega) (rg_h (by decide) hn)).mono (fun _ _ _ _ _ _ hx => pK.sm hC hx)) (fun n1 kd1 I1 J1 P1 hR1 => q_changed_no2 (o + 69) h k y3 y4 hR1 hz hh (by omega) (rg_h (by decide) hn))
    · exact pr_of (k := 1) (v := 0) (w := nI 0) ⟨by decide, by decide, by decide, by decide, by decide, fun q => absurd q (by decide), by first | exact fun _ => trivial | exact fun _ => Or.inl rfl | exact fun _ => Or.inr rfl | exact fun q => absurd q (by decide)⟩ hR (hok) ((k_changed_no1 o b s f l h y2 y3 y4 hC hz hh (rg_h (by decide) hn)).mono (fun _ _ _ _ _ _ hx => pK.sm hC hx)) (fun n1 kd1 I1 J1 P1 hR1 => q_changed_no1 (o + 69) h y2 y3 y4 hR1 hz hh (rg_h (by decide) hn))
  · exact pr_of (k := 1) (v := 0) (w := nI 0) ⟨by decide, by decide, by decide, by decide, by decide, fun q => absurd q (by decide), by first | exact fun _ => trivial | exact fun _ => Or.inl rfl | exact fun _ => Or.inr rfl | exact fun q => absurd q (by decide)⟩ hR (hok) ((k_nh_changed o b s f l y1 y2 y3 y4 hC hz hn).mono (fun _ _ _ _ _ _ hx => pK.sm hC hx)) (fun n1 kd1 I1 J1 P1 hR1 => q_nh_changed (o + 69) y1 y2 y3 y4 hR1 hz hn)

set_option maxHeartbeats 4000000 in
set_option maxRecDepth 100000 in
theorem pr_walk (o b s f l : Nat) (y1 : Int32) (y2 : Int32) (y3 : Int32) {t : Nat} {T : Nat → Nat} {fp : Int32} {rr : Nat → Int32} {H M : Nat} {un : Bool} {cs : Nat → List Nat} {tx : Nat → List Int32} {e : Lf} {im : Option Lf} {wk : Option (List Nat)} {n : Nat} {kd : mK} {I : mI} {J : mJ} {P : mP} (hC : CR o b s f l n kd I J P t T fp rr H M un cs tx e im wk) (hok : okQ t T H M cs tx e) (hR : RR (o + 69) kd I P t T fp rr H M un cs tx e im wk) (ho9 : o + 125 < n) (hn9 : n < 1000000) : Pr o n kd I J P yX9_walk cX9_walk 6 (some .int) yX10_walk cX10_walk 10 (some .int) [.int y1, .int y2, .int y3] 1 "java/lang/IllegalArgumentException" "" (fun _ => True) := by
  have hz := hok.1
  have hH8 : H ≤ 8 := hz.2.1.2.1
  have hM20 : M ≤ 20 := hz.2.1.1.2
  by_cases hb : wkO H M y1 y2 y3 = true
  · have hb9 := hb
    unfold wkO at hb9
    rw [Bool.and_eq_true, Bool.and_eq_true] at hb9
    obtain ⟨⟨b1, b2⟩, b3⟩ := hb9
    obtain ⟨S, hS2, rfl⟩ := isH (Nat.lt_of_le_of_lt (Nat.pow_le_pow_right (by decide) hH8) (by decide)) b1
    obtain ⟨p, hp1, hp, rfl⟩ := isN (by omega) b2
    rcases rg y3 9 (by decide) with ⟨cr, hcr, rfl⟩ | hn
    · have hg : gdN H M un cs e = false ∨ gdN H M un cs e = true := by cases gdN H M un cs e <;> simp
      rcases hg with hg | hg
      · exact pr_of (k := 0) ⟨by decide, by decide, by decide, by decide, by decide, fun _ => rfl, by first | exact fun _ => trivial | exact fun _ => Or.inl rfl | exact fun _ => Or.inr rfl | exact fun q => absurd q (by decide)⟩ hR (hok) (k_walk_sp o b s f l S p cr hC hz ho9 hn9 hS2 hp1 hp hcr hg) (fun n1 kd1 I1 J1 P1 hR1 => q_walk_sp (o + 69) S p cr hR1 hz hS2 hp1 hp hcr hg)
      · by_cases hl10 : (wkG (fsN H M un cs e) S H).length ≤ 10
        · exact pr_of (k := 0) ⟨by decide, by decide, by decide, by decide, by decide, fun _ => rfl, by first | exact fun _ => trivial | exact fun _ => Or.inl rfl | exact fun _ => Or.inr rfl | exact fun q => absurd q (by decide)⟩ hR (hok) (k_walk o b s f l S p cr hC hz ho9 hn9 hS2 hp1 hp hcr hg hl10) (fun n1 kd1 I1 J1 P1 hR1 => q_walk (o + 69) S p cr hR1 hz hS2 hp1 hp hcr hg hl10)
        · exact pr_of (k := 0) ⟨by decide, by decide, by decide, by decide, by decide, fun _ => rfl, by first | exact fun _ => trivial | exact fun _ => Or.inl rfl | exact fun _ => Or.inr rfl | exact fun q => absurd q (by decide)⟩ hR (hok) (k_walk_many o b s f l S p cr hC hz ho9 hn9 hS2 hp1 hp hcr hg (by omega)) (fun n1 kd1 I1 J1 P1 hR1 => q_walk_many (o + 69) S p cr hR1 hz hS2 hp1 hp hcr hg (by omega))
    · rw [wi_no hn] at b3
      exact absurd b3 (by decide)
  · have hb : wkO H M y1 y2 y3 = false := by simpa using hb
    exact pr_of (k := 1) (v := 0) (w := nI 0) ⟨by decide, by decide, by decide, by decide, by decide, fun q => absurd q (by decide), by first | exact fun _ => trivial | exact fun _ => Or.inl rfl | exact fun _ => Or.inr rfl | exact fun q => absurd q (by decide)⟩ hR (hok) ((k_walk_no o b s f l y1 y2 y3 hC hz hb).mono (fun _ _ _ _ _ _ hx => pK.sm hC hx)) (fun n1 kd1 I1 J1 P1 hR1 => q_walk_no (o + 69) y1 y2 y3 hR1 hz hb)

set_option maxHeartbeats 4000000 in
set_option maxRecDepth 100000 in
theorem pr_door (o b s f l : Nat) (y1 : Int32) {t : Nat} {T : Nat → Nat} {fp : Int32} {rr : Nat → Int32} {H M : Nat} {un : Bool} {cs : Nat → List Nat} {tx : Nat → List Int32} {e : Lf} {im : Option Lf} {wk : Option (List Nat)} {n : Nat} {kd : mK} {I : mI} {J : mJ} {P : mP} (hC : CR o b s f l n kd I J P t T fp rr H M un cs tx e im wk) (hok : okQ t T H M cs tx e) (hR : RR (o + 69) kd I P t T fp rr H M un cs tx e im wk) : Pr o n kd I J P yX9_door cX9_door 2 (some .int) yX10_door cX10_door 2 (some .int) [.int y1] 1 "java/util/NoSuchElementException" "" (fun _ => True) := by
  have hz := hok.1
  have hH8 : H ≤ 8 := hz.2.1.2.1
  have hM20 : M ≤ 20 := hz.2.1.1.2
  cases wk with
  | none => exact pr_of (k := 1) (v := 0) (w := nI 0) ⟨by decide, by decide, by decide, by decide, by decide, fun q => absurd q (by decide), by first | exact fun _ => trivial | exact fun _ => Or.inl rfl | exact fun _ => Or.inr rfl | exact fun q => absurd q (by decide)⟩ hR (hok) ((k_door_none o b s f l y1 hC hz).mono (fun _ _ _ _ _ _ hx => pK.sm hC hx)) (fun n1 kd1 I1 J1 P1 hR1 => q_door_none (o + 69) y1 hR1 hz)
  | some w =>
    have hw10 := hC.w10
    by_cases hx : y1 < -1 ∨ ¬ y1 < nI w.length
    · exact pr_of (k := 1) (v := 0) (w := nI 0) ⟨by decide, by decide, by decide, by decide, by decide, fun q => absurd q (by decide), by first | exact fun _ => trivial | exact fun _ => Or.inl rfl | exact fun _ => Or.inr rfl | exact fun q => absurd q (by decide)⟩ hR (hok) ((k_door_no o b s f l y1 hC hz hx).mono (fun _ _ _ _ _ _ hx => pK.sm hC hx)) (fun n1 kd1 I1 J1 P1 hR1 => q_door_no (o + 69) y1 hR1 hz hw10 hx)
    · by_cases h1 : y1 = -1
      · subst h1
        exact pr_of (k := 0) ⟨by decide, by decide, by decide, by decide, by decide, fun _ => rfl, by first | exact fun _ => trivial | exact fun _ => Or.inl rfl | exact fun _ => Or.inr rfl | exact fun q => absurd q (by decide)⟩ hR (hok) ((k_door_len o b s f l  hC hz).mono (fun _ _ _ _ _ _ hx => pK.is hC hx)) (fun n1 kd1 I1 J1 P1 hR1 => q_door_len (o + 69)  hR1 hz hw10)
      · obtain ⟨i, hi, rfl⟩ := m1_ex (by omega) h1 hx
        exact pr_of (k := 0) ⟨by decide, by decide, by decide, by decide, by decide, fun _ => rfl, by first | exact fun _ => trivial | exact fun _ => Or.inl rfl | exact fun _ => Or.inr rfl | exact fun q => absurd q (by decide)⟩ hR (hok) ((k_door o b s f l i hC hz hi).mono (fun _ _ _ _ _ _ hx => pK.is hC hx)) (fun n1 kd1 I1 J1 P1 hR1 => q_door (o + 69) i hR1 hz hw10 hi)

set_option maxHeartbeats 4000000 in
set_option maxRecDepth 100000 in
theorem pr_ring (o b s f l : Nat) (y1 : Int32) (y2 : Int32) {t : Nat} {T : Nat → Nat} {fp : Int32} {rr : Nat → Int32} {H M : Nat} {un : Bool} {cs : Nat → List Nat} {tx : Nat → List Int32} {e : Lf} {im : Option Lf} {wk : Option (List Nat)} {n : Nat} {kd : mK} {I : mI} {J : mJ} {P : mP} (hC : CR o b s f l n kd I J P t T fp rr H M un cs tx e im wk) (hok : okQ t T H M cs tx e) (hR : RR (o + 69) kd I P t T fp rr H M un cs tx e im wk) : Pr o n kd I J P yX9_ring cX9_ring 4 (some .int) yX10_ring cX10_ring 3 (some .int) [.int y1, .int y2] 1 "java/util/NoSuchElementException" "" (fun _ => True) := by
  have hz := hok.1
  have hH8 : H ≤ 8 := hz.2.1.2.1
  have hM20 : M ≤ 20 := hz.2.1.1.2
  rcases hs_cs y1 hH8 with ⟨h, hh, rfl⟩ | hn
  · rcases rg y2 1 (by decide) with ⟨k, hk, rfl⟩ | hn
    · exact pr_of (k := 0) ⟨by decide, by decide, by decide, by decide, by decide, fun _ => rfl, by first | exact fun _ => trivial | exact fun _ => Or.inl rfl | exact fun _ => Or.inr rfl | exact fun q => absurd q (by decide)⟩ hR (hok) (k_ring o b s f l h k hC hz hh (by omega)) (fun n1 kd1 I1 J1 P1 hR1 => q_ring (o + 69) h k hR1 hz hh (by omega))
    · exact pr_of (k := 1) (v := 0) (w := nI 0) ⟨by decide, by decide, by decide, by decide, by decide, fun q => absurd q (by decide), by first | exact fun _ => trivial | exact fun _ => Or.inl rfl | exact fun _ => Or.inr rfl | exact fun q => absurd q (by decide)⟩ hR (hok) ((k_ring_no o b s f l h y2 hC hz hh (rg_h (by decide) hn)).mono (fun _ _ _ _ _ _ hx => pK.sm hC hx)) (fun n1 kd1 I1 J1 P1 hR1 => q_ring_no (o + 69) h y2 hR1 hz hh (rg_h (by decide) hn))
  · exact pr_of (k := 1) (v := 0) (w := nI 0) ⟨by decide, by decide, by decide, by decide, by decide, fun q => absurd q (by decide), by first | exact fun _ => trivial | exact fun _ => Or.inl rfl | exact fun _ => Or.inr rfl | exact fun q => absurd q (by decide)⟩ hR (hok) ((k_nh_ring o b s f l y1 y2 hC hz hn).mono (fun _ _ _ _ _ _ hx => pK.sm hC hx)) (fun n1 kd1 I1 J1 P1 hR1 => q_nh_ring (o + 69) y1 y2 hR1 hz hn)

set_option maxHeartbeats 4000000 in
set_option maxRecDepth 100000 in
theorem pr_written (o b s f l : Nat) (y1 : Int32) {t : Nat} {T : Nat → Nat} {fp : Int32} {rr : Nat → Int32} {H M : Nat} {un : Bool} {cs : Nat → List Nat} {tx : Nat → List Int32} {e : Lf} {im : Option Lf} {wk : Option (List Nat)} {n : Nat} {kd : mK} {I : mI} {J : mJ} {P : mP} (hC : CR o b s f l n kd I J P t T fp rr H M un cs tx e im wk) (hok : okQ t T H M cs tx e) (hR : RR (o + 69) kd I P t T fp rr H M un cs tx e im wk) : Pr o n kd I J P yX9_written cX9_written 2 (some .int) yX10_written cX10_written 2 (some .int) [.int y1] 1 "java/util/NoSuchElementException" "" (fun _ => True) := by
  have hz := hok.1
  have hH8 : H ≤ 8 := hz.2.1.2.1
  have hM20 : M ≤ 20 := hz.2.1.1.2
  have hl := pg_len (M := M) (un := un) (e := e) hok.2
  by_cases hx : y1 < -1 ∨ ¬ y1 < nI (pgO H M un cs tx e).length
  · exact pr_of (k := 1) (v := 0) (w := nI 0) ⟨by decide, by decide, by decide, by decide, by decide, fun q => absurd q (by decide), by first | exact fun _ => trivial | exact fun _ => Or.inl rfl | exact fun _ => Or.inr rfl | exact fun q => absurd q (by decide)⟩ hR (hok) (k_written_no o b s f l y1 hC hz hok.2 hx) (fun n1 kd1 I1 J1 P1 hR1 => q_written_no (o + 69) y1 hR1 hz hok.2 hx)
  · by_cases h1 : y1 = -1
    · subst h1
      exact pr_of (k := 0) ⟨by decide, by decide, by decide, by decide, by decide, fun _ => rfl, by first | exact fun _ => trivial | exact fun _ => Or.inl rfl | exact fun _ => Or.inr rfl | exact fun q => absurd q (by decide)⟩ hR (hok) (k_written_len o b s f l  hC hz hok.2) (fun n1 kd1 I1 J1 P1 hR1 => q_written_len (o + 69)  hR1 hz hok.2)
    · obtain ⟨i, hi, rfl⟩ := m1_ex (by omega) h1 hx
      exact pr_of (k := 0) ⟨by decide, by decide, by decide, by decide, by decide, fun _ => rfl, by first | exact fun _ => trivial | exact fun _ => Or.inl rfl | exact fun _ => Or.inr rfl | exact fun q => absurd q (by decide)⟩ hR (hok) (k_written o b s f l i hC hz hok.2 hi) (fun n1 kd1 I1 J1 P1 hR1 => q_written (o + 69) i hR1 hz hok.2 hi)

set_option maxHeartbeats 4000000 in
set_option maxRecDepth 100000 in
theorem pr_left (o b s f l : Nat) (y1 : Int32) (y2 : Int32) {t : Nat} {T : Nat → Nat} {fp : Int32} {rr : Nat → Int32} {H M : Nat} {un : Bool} {cs : Nat → List Nat} {tx : Nat → List Int32} {e : Lf} {im : Option Lf} {wk : Option (List Nat)} {n : Nat} {kd : mK} {I : mI} {J : mJ} {P : mP} (hC : CR o b s f l n kd I J P t T fp rr H M un cs tx e im wk) (hok : okQ t T H M cs tx e) (hR : RR (o + 69) kd I P t T fp rr H M un cs tx e im wk) : Pr o n kd I J P yX9_left cX9_left 3 (some .int) yX10_left cX10_left 3 (some .int) [.int y1, .int y2] 2 "java/util/NoSuchElementException" "java/lang/IllegalArgumentException" (fun _ => True) := by
  have hz := hok.1
  have hH8 : H ≤ 8 := hz.2.1.2.1
  have hM20 : M ≤ 20 := hz.2.1.1.2
  rcases hs_cs y1 hH8 with ⟨h, hh, rfl⟩ | hn
  · rcases nu_cs y2 hM20 with ⟨v, hv1, hv, rfl⟩ | hw
    · exact pr_of (k := 0) ⟨by decide, by decide, by decide, by decide, by decide, fun _ => rfl, by first | exact fun _ => trivial | exact fun _ => Or.inl rfl | exact fun _ => Or.inr rfl | exact fun q => absurd q (by decide)⟩ hR (hok) (k_left o b s f l h v hC hz hh hv1 hv) (fun n1 kd1 I1 J1 P1 hR1 => q_left (o + 69) h v hR1 hz hh hv1 hv)
    · exact pr_of (k := 2) (v := 0) (w := nI 0) ⟨by decide, by decide, by decide, by decide, by decide, fun q => absurd q (by decide), by first | exact fun _ => trivial | exact fun _ => Or.inl rfl | exact fun _ => Or.inr rfl | exact fun q => absurd q (by decide)⟩ hR (hok) ((k_left_no o b s f l h y2 hC hz hh hw).mono (fun _ _ _ _ _ _ hx => pK.sm hC hx)) (fun n1 kd1 I1 J1 P1 hR1 => q_left_no (o + 69) h y2 hR1 hz hh hw)
  · exact pr_of (k := 1) (v := 0) (w := nI 0) ⟨by decide, by decide, by decide, by decide, by decide, fun q => absurd q (by decide), by first | exact fun _ => trivial | exact fun _ => Or.inl rfl | exact fun _ => Or.inr rfl | exact fun q => absurd q (by decide)⟩ hR (hok) ((k_nh_left o b s f l y1 y2 hC hz hn).mono (fun _ _ _ _ _ _ hx => pK.sm hC hx)) (fun n1 kd1 I1 J1 P1 hR1 => q_nh_left (o + 69) y1 y2 hR1 hz hn)

set_option maxHeartbeats 4000000 in
set_option maxRecDepth 100000 in
theorem pr_look (o b s f l : Nat) (y1 : Int32) (y2 : Int32) {t : Nat} {T : Nat → Nat} {fp : Int32} {rr : Nat → Int32} {H M : Nat} {un : Bool} {cs : Nat → List Nat} {tx : Nat → List Int32} {e : Lf} {im : Option Lf} {wk : Option (List Nat)} {n : Nat} {kd : mK} {I : mI} {J : mJ} {P : mP} (hC : CR o b s f l n kd I J P t T fp rr H M un cs tx e im wk) (hok : okQ t T H M cs tx e) (hR : RR (o + 69) kd I P t T fp rr H M un cs tx e im wk) : Pr o n kd I J P yX9_look cX9_look 7 (some .int) yX10_look cX10_look 8 (some .int) [.int y1, .int y2] 1 "java/util/NoSuchElementException" "" (fun _ => True) := by
  have hz := hok.1
  have hH8 : H ≤ 8 := hz.2.1.2.1
  have hM20 : M ≤ 20 := hz.2.1.1.2
  rcases hs_cs y1 hH8 with ⟨h, hh, rfl⟩ | hn
  · rcases rg y2 2 (by decide) with ⟨k, hk, rfl⟩ | hn
    · exact pr_of (k := 0) ⟨by decide, by decide, by decide, by decide, by decide, fun _ => rfl, by first | exact fun _ => trivial | exact fun _ => Or.inl rfl | exact fun _ => Or.inr rfl | exact fun q => absurd q (by decide)⟩ hR (hok) (k_look o b s f l h k hC hz hh (by omega)) (fun n1 kd1 I1 J1 P1 hR1 => q_look (o + 69) h k hR1 hz hh (by omega))
    · exact pr_of (k := 1) (v := 0) (w := nI 0) ⟨by decide, by decide, by decide, by decide, by decide, fun q => absurd q (by decide), by first | exact fun _ => trivial | exact fun _ => Or.inl rfl | exact fun _ => Or.inr rfl | exact fun q => absurd q (by decide)⟩ hR (hok) ((k_look_no o b s f l h y2 hC hz hh (rg_h (by decide) hn)).mono (fun _ _ _ _ _ _ hx => pK.sm hC hx)) (fun n1 kd1 I1 J1 P1 hR1 => q_look_no (o + 69) h y2 hR1 hz hh (rg_h (by decide) hn))
  · exact pr_of (k := 1) (v := 0) (w := nI 0) ⟨by decide, by decide, by decide, by decide, by decide, fun q => absurd q (by decide), by first | exact fun _ => trivial | exact fun _ => Or.inl rfl | exact fun _ => Or.inr rfl | exact fun q => absurd q (by decide)⟩ hR (hok) ((k_nh_look o b s f l y1 y2 hC hz hn).mono (fun _ _ _ _ _ _ hx => pK.sm hC hx)) (fun n1 kd1 I1 J1 P1 hR1 => q_nh_look (o + 69) y1 y2 hR1 hz hn)

set_option maxHeartbeats 4000000 in
set_option maxRecDepth 100000 in
theorem pr_plant (o b s f l : Nat) (y1 : Int32) (y2 : Int32) {t : Nat} {T : Nat → Nat} {fp : Int32} {rr : Nat → Int32} {H M : Nat} {un : Bool} {cs : Nat → List Nat} {tx : Nat → List Int32} {e : Lf} {im : Option Lf} {wk : Option (List Nat)} {n : Nat} {kd : mK} {I : mI} {J : mJ} {P : mP} (hC : CR o b s f l n kd I J P t T fp rr H M un cs tx e im wk) (hok : okQ t T H M cs tx e) (hR : RR (o + 69) kd I P t T fp rr H M un cs tx e im wk) : Pr o n kd I J P yX9_plant cX9_plant 3 (some .int) yX10_plant cX10_plant 3 (some .int) [.int y1, .int y2] 1 "java/lang/IllegalArgumentException" "" (fun _ => True) := by
  have hz := hok.1
  have hH8 : H ≤ 8 := hz.2.1.2.1
  have hM20 : M ≤ 20 := hz.2.1.1.2
  rcases rg1 y2 8 (by decide) with ⟨H2, h1, h2, rfl⟩ | hn
  · exact pr_of (k := 0) ⟨by decide, by decide, by decide, by decide, by decide, fun _ => rfl, by first | exact fun _ => trivial | exact fun _ => Or.inl rfl | exact fun _ => Or.inr rfl | exact fun q => absurd q (by decide)⟩ hR (⟨⟨hz.1, okS_sd hz.2.1.1.1 hM20 h2, okL_Z _ _⟩, okX_sd hz.2.1.1.1 hM20 h2⟩) (k_plant o b s f l H2 y1 hC hz h1 h2) (fun n1 kd1 I1 J1 P1 hR1 => q_plant (o + 69) H2 y1 hR1 hz h1 h2)
  · exact pr_of (k := 1) (v := 0) (w := nI 0) ⟨by decide, by decide, by decide, by decide, by decide, fun q => absurd q (by decide), by first | exact fun _ => trivial | exact fun _ => Or.inl rfl | exact fun _ => Or.inr rfl | exact fun q => absurd q (by decide)⟩ hR (hok) ((k_plant_no o b s f l y1 y2 hC hz hn).mono (fun _ _ _ _ _ _ hx => pK.sm hC hx)) (fun n1 kd1 I1 J1 P1 hR1 => q_plant_no (o + 69) y1 y2 hR1 hz hn)

set_option maxHeartbeats 4000000 in
set_option maxRecDepth 100000 in
theorem pr_tried (o b s f l : Nat) (y1 : Int32) (y2 : Int32) (y3 : Int32) (y4 : Int32) {t : Nat} {T : Nat → Nat} {fp : Int32} {rr : Nat → Int32} {H M : Nat} {un : Bool} {cs : Nat → List Nat} {tx : Nat → List Int32} {e : Lf} {im : Option Lf} {wk : Option (List Nat)} {n : Nat} {kd : mK} {I : mI} {J : mJ} {P : mP} (hC : CR o b s f l n kd I J P t T fp rr H M un cs tx e im wk) (hok : okQ t T H M cs tx e) (hR : RR (o + 69) kd I P t T fp rr H M un cs tx e im wk) (ho9 : o + 125 < n) (hn9 : n < 900000) : Pr o n kd I J P yX9_tried cX9_tried 10 (some .int) yX10_tried cX10_tried 11 (some .int) [.int y1, .int y2, .int y3, .int y4] 2 "java/util/NoSuchElementException" "java/lang/IllegalArgumentException" (fun _ => True) := by
  have hz := hok.1
  have hH8 : H ≤ 8 := hz.2.1.2.1
  have hM20 : M ≤ 20 := hz.2.1.1.2
  rcases rg y1 2 (by decide) with ⟨law, hlaw, rfl⟩ | hn
  · rcases rg y4 2 (by decide) with ⟨wh, hwh, rfl⟩ | hn
    · rcases rg y2 40 (by decide) with ⟨S, hS, rfl⟩ | hn
      · rcases rg1 y3 8 (by decide) with ⟨Hs, h1, h2, rfl⟩ | hn
        · exact pr_of (k := 0) ⟨by decide, by decide, by decide, by decide, by decide, fun _ => rfl, by first | exact fun _ => trivial | exact fun _ => Or.inl rfl | exact fun _ => Or.inr rfl | exact fun q => absurd q (by decide)⟩ hR (hok) (k_tried o b s f l law S Hs wh hC hz ho9 hn9 h1 h2 hlaw hwh hS) (fun n1 kd1 I1 J1 P1 hR1 => q_tried (o + 69) law S Hs wh hR1 hz h1 h2 hlaw hwh hS)
        · exact pr_of (k := 2) (v := 0) (w := nI 0) ⟨by decide, by decide, by decide, by decide, by decide, fun q => absurd q (by decide), by first | exact fun _ => trivial | exact fun _ => Or.inl rfl | exact fun _ => Or.inr rfl | exact fun q => absurd q (by decide)⟩ hR (hok) ((k_tried_iae o b s f l (nI law) (nI S) y3 (nI wh) hC hz (isH_of (by omega) (by decide)) (isH_of (by omega) (by decide)) (Or.inr (Or.inr hn))).mono (fun _ _ _ _ _ _ hx => pK.sm hC hx)) (fun n1 kd1 I1 J1 P1 hR1 => q_tried_2 (o + 69) (nI law) (nI S) y3 (nI wh) hR1 hz (wi_of (Nat.zero_le _) hlaw (by decide)) (wi_of (Nat.zero_le _) hwh (by decide)) (by rw [wi_no hn, Bool.and_false]))
      · exact pr_of (k := 2) (v := 0) (w := nI 0) ⟨by decide, by decide, by decide, by decide, by decide, fun q => absurd q (by decide), by first | exact fun _ => trivial | exact fun _ => Or.inl rfl | exact fun _ => Or.inr rfl | exact fun q => absurd q (by decide)⟩ hR (hok) ((k_tried_iae o b s f l (nI law) y2 y3 (nI wh) hC hz (isH_of (by omega) (by decide)) (isH_of (by omega) (by decide)) (hn.elim Or.inl (fun z => Or.inr (Or.inl z)))).mono (fun _ _ _ _ _ _ hx => pK.sm hC hx)) (fun n1 kd1 I1 J1 P1 hR1 => q_tried_2 (o + 69) (nI law) y2 y3 (nI wh) hR1 hz (wi_of (Nat.zero_le _) hlaw (by decide)) (wi_of (Nat.zero_le _) hwh (by decide)) (by rw [rg_w hn, Bool.false_and]))
    · exact pr_of (k := 1) (v := 0) (w := nI 0) ⟨by decide, by decide, by decide, by decide, by decide, fun q => absurd q (by decide), by first | exact fun _ => trivial | exact fun _ => Or.inl rfl | exact fun _ => Or.inr rfl | exact fun q => absurd q (by decide)⟩ hR (hok) ((k_tried_nse o b s f l (nI law) y2 y3 y4 hC hz (by rw [rg_h (by decide) hn, Bool.and_false])).mono (fun _ _ _ _ _ _ hx => pK.sm hC hx)) (fun n1 kd1 I1 J1 P1 hR1 => q_tried_1 (o + 69) (nI law) y2 y3 y4 hR1 hz (by rw [rg_w hn, Bool.and_false]))
  · exact pr_of (k := 1) (v := 0) (w := nI 0) ⟨by decide, by decide, by decide, by decide, by decide, fun q => absurd q (by decide), by first | exact fun _ => trivial | exact fun _ => Or.inl rfl | exact fun _ => Or.inr rfl | exact fun q => absurd q (by decide)⟩ hR (hok) ((k_tried_nse o b s f l y1 y2 y3 y4 hC hz (by rw [rg_h (by decide) hn, Bool.false_and])).mono (fun _ _ _ _ _ _ hx => pK.sm hC hx)) (fun n1 kd1 I1 J1 P1 hR1 => q_tried_1 (o + 69) y1 y2 y3 y4 hR1 hz (by rw [rg_w hn, Bool.false_and]))

theorem Tr.street {o : Nat} {R9 : RS} {T : Nat → Nat} {rr : Nat → Int32} {H M : Nat} {un : Bool} {cs : Nat → List Nat} {tx : Nat → List Int32} {e : Lf} {im : Option Lf} {wk : Option (List Nat)} : Tr o (kSt o R9 T rr H M un cs tx e im wk) := fun n kd I J P I' J' hf h => ⟨fun z H2 M2 un2 cs2 tx2 hF => Tr.cx n kd I J P I' J' hf (h.1 z H2 M2 un2 cs2 tx2 hF), fun z => Tr.cx n kd I J P I' J' hf (h.2 z)⟩
set_option maxHeartbeats 4000000 in
set_option maxRecDepth 100000 in
theorem pr_street (o b s f l : Nat) (y1 : Int32) {t : Nat} {T : Nat → Nat} {fp : Int32} {rr : Nat → Int32} {H M : Nat} {un : Bool} {cs : Nat → List Nat} {tx : Nat → List Int32} {e : Lf} {im : Option Lf} {wk : Option (List Nat)} {n : Nat} {kd : mK} {I : mI} {J : mJ} {P : mP} (hC : CR o b s f l n kd I J P t T fp rr H M un cs tx e im wk) (hok : okQ t T H M cs tx e) (hR : RR (o + 69) kd I P t T fp rr H M un cs tx e im wk) : Pr o n kd I J P yX9_street cX9_street 3 (some .int) yX10_street cX10_street 3 (some .int) [.int y1] 1 "java/lang/IllegalArgumentException" "" (fun _ => True) := by
  have hz := hok.1
  have hH8 : H ≤ 8 := hz.2.1.2.1
  have hM20 : M ≤ 20 := hz.2.1.1.2
  by_cases hx : y1 < 0
  · exact pr_of (k := 1) (v := 0) (w := nI 0) ⟨by decide, by decide, by decide, by decide, by decide, fun q => absurd q (by decide), by first | exact fun _ => trivial | exact fun _ => Or.inl rfl | exact fun _ => Or.inr rfl | exact fun q => absurd q (by decide)⟩ hR (hok) ((k_street_no1 o b s f l y1 hC hz hx).mono (fun _ _ _ _ _ _ hx => pK.sm hC hx)) (fun n1 kd1 I1 J1 P1 hR1 => q_street_no1 (o + 69) y1 hR1 hz hx)
  · obtain ⟨N, hN3, rfl⟩ : ∃ N, N < 2 ^ 31 ∧ y1 = nI N := by
      have h3 : ¬ y1.toInt < 0 := fun q => hx (Int32.lt_iff_toInt_lt.mpr q)
      have h4 := y1.toInt_lt
      refine ⟨y1.toInt.toNat, by omega, Int32.toInt_inj.mp ?_⟩
      rw [nI_toInt (by omega)]
      omega
    by_cases hN : N ≤ t
    · obtain ⟨X, R0, hX, hR0, hc⟩ := k_street o b s f l N hC hz hN
      exact ⟨0, 62, 0, 0, 15, _, _, _, _, ⟨by decide, by decide, by decide, by decide, by decide, fun _ => rfl, fun _ => trivial⟩, Tr.street, hc, fun n1 kd1 I1 J1 P1 hs => q_street (o + 69) N (hR.fr hs) hz hN hX hR0, fun n2 kd2 I2 J2 P2 h1 h2 => by
        by_cases hr : rf (rLines (tkT N X) (tkT N X).2.1 R0) = nI 0
        · obtain ⟨H2, M2, un2, cs2, tx2, hF, h3⟩ := h2.1 hr
          exact ⟨_, _, _, _, _, _, _, _, _, _, _, _, ⟨⟨⟨Nat.zero_le _, fun j hj => absurd hj (Nat.not_lt_zero _)⟩, hF.2.2.2.1, hF.life.1⟩, hF.2.2.2.2.1⟩, h1.1 hr H2 M2 un2 cs2 tx2 hF, h3⟩
        · exact ⟨_, _, _, _, _, _, _, _, _, _, _, _, ⟨⟨⟨Nat.zero_le _, fun j hj => absurd hj (Nat.not_lt_zero _)⟩, hz.2⟩, hok.2⟩, h1.2 hr, h2.2 hr⟩⟩
    · exact pr_of (k := 1) (v := 0) (w := nI 0) ⟨by decide, by decide, by decide, by decide, by decide, fun q => absurd q (by decide), by first | exact fun _ => trivial | exact fun _ => Or.inl rfl | exact fun _ => Or.inr rfl | exact fun q => absurd q (by decide)⟩ hR (hok) ((k_street_no2 o b s f l N hC hz (by omega) hN3).mono (fun _ _ _ _ _ _ hx => pK.sm hC hx)) (fun n1 kd1 I1 J1 P1 hR1 => q_street_no2 (o + 69) N hR1 hz (by omega) hN3)


/-! FEUDS, on any state, both sides; searches by any set of riddles -/
/-- what a method that asks several times keeps of the memory at its start -/
def Bs (o : Nat) (I0 I : mI) (J0 J : mJ) (P0 P : mP) : Prop := (∀ a, o + 69 ≤ a → a ≤ o + 125 → I a = I0 a ∧ J a = J0 a ∧ P a = P0 a) ∧ P (o + 56) = P0 (o + 56)
theorem Bs.rf {o : Nat} {I : mI} {J : mJ} {P : mP} : Bs o I I J J P P := ⟨fun _ _ _ => ⟨rfl, rfl, rfl⟩, rfl⟩
theorem Bs.tr {o : Nat} {I0 I1 I2 : mI} {J0 J1 J2 : mJ} {P0 P1 P2 : mP} (h : Bs o I0 I1 J0 J1 P0 P1) (g : Bs o I1 I2 J1 J2 P1 P2) : Bs o I0 I2 J0 J2 P0 P2 := ⟨fun a x y => ⟨(g.1 a x y).1.trans (h.1 a x y).1, (g.1 a x y).2.1.trans (h.1 a x y).2.1, (g.1 a x y).2.2.trans (h.1 a x y).2.2⟩, g.2.trans h.2⟩
theorem Bs.qf {o x : Nat} {I0 I I' : mI} {J0 J J' : mJ} {P0 P P' : mP} (hx : x + 8 < o + 69) (hf : qFr (o + 48) x I I' J J' P P') (h : Bs o I0 I J0 J P0 P) : Bs o I0 I' J0 J' P0 P' :=
  ⟨fun a x1 y1 => ⟨(hf.1 a (by omega) (by omega)).trans (h.1 a x1 y1).1, (hf.2.1 a (by omega)).trans (h.1 a x1 y1).2.1, (hf.2.2.1 a (by omega)).trans (h.1 a x1 y1).2.2⟩, (hf.2.2.1 _ (by omega)).trans h.2⟩
theorem Bs.up {o x : Nat} {R : Nat → Int32} {I0 I : mI} {J0 J : mJ} {P0 P : mP} (hx : x < o + 69) (h : Bs o I0 I J0 J P0 P) : Bs o I0 (va_up I x R) J0 J P0 P := ⟨fun a x1 y1 => ⟨(am_up_n _ _ (by omega)).trans (h.1 a x1 y1).1, (h.1 a x1 y1).2⟩, h.2⟩
theorem CR.up {o b s f l n t : Nat} {kd : mK} {I : mI} {J : mJ} {P : mP} {T : Nat → Nat} {fp : Int32} {rr : Nat → Int32} {H M : Nat} {un : Bool} {cs : Nat → List Nat} {tx : Nat → List Int32} {e : Lf} {im : Option Lf} {wk : Option (List Nat)} {x : Nat} {R : Nat → Int32} (hx : o + 47 ≤ x ∧ x ≤ o + 57) (hC : CR o b s f l n kd I J P t T fp rr H M un cs tx e im wk) : CR o b s f l n kd (va_up I x R) J P t T fp rr H M un cs tx e im wk := by
  have hat := hC.1.at
  exact CR.qu (I := I) (J := J) hC.1 hC.2.1 (am_up_n _ _ (by omega)) (fun a a1 a2 a3 a4 a5 a6 a7 a8 a9 a10 => am_up_n _ _ (by omega)) rfl hC
theorem pK.bs {o b s f l n t : Nat} {kd : mK} {I I' : mI} {J J' : mJ} {P P' : mP} {T : Nat → Nat} {fp : Int32} {rr : Nat → Int32} {H M : Nat} {un : Bool} {cs : Nat → List Nat} {tx : Nat → List Int32} {e : Lf} {im : Option Lf} {wk : Option (List Nat)} {r : Option Value ⊕ String} (hB : Bs o I I' J J' P P') (hC : CR o b s f l n kd I' J' P' t T fp rr H M un cs tx e im wk) : pK o n kd I J P r (CX o t T fp rr H M un cs tx e im wk) r n kd I' J' P' := ⟨rfl, ⟨Nat.le_refl _, Nat.le_succ _⟩, fun q => by rw [hB.2]; exact q, fun a a1 a2 => ⟨rfl, (hB.1 a a1 a2).1, (hB.1 a a1 a2).2.1, (hB.1 a a1 a2).2.2⟩, b, s, f, l, hC⟩
/-- a search by riddles that there are, of the class: what it finds -/
def gdR (r : Nat × List (Nat → Nat) × Bool) : Bool := !r.2.2 && decide (r.2.1.length ≤ 1000)
theorem gdR_len {r : Nat × List (Nat → Nat) × Bool} (h : gdR r = true) : r.2.1.length ≤ 1000 := by
  unfold gdR at h
  rw [Bool.and_eq_true, decide_eq_true_eq] at h
  exact h.2
theorem skA_t {r : Nat × List (Nat → Nat) × Bool} (h : gdR r = true) : skA r = nI r.2.1.length := by rw [skA_eq]; exact if_pos h
theorem skA_f {r : Nat × List (Nat → Nat) × Bool} (h : gdR r = false) : skA r = -2 := by rw [skA_eq]; exact if_neg (by unfold gdR at h; rw [h]; decide)
theorem CR.clz {o b s f l n t : Nat} {kd : mK} {I : mI} {J : mJ} {P : mP} {T : Nat → Nat} {fp : Int32} {rr : Nat → Int32} {H M : Nat} {un : Bool} {cs : Nat → List Nat} {tx : Nat → List Int32} {e : Lf} {im : Option Lf} {wk : Option (List Nat)} (hC : CR o b s f l n kd I J P t T fp rr H M un cs tx e im wk) (hz : okZ t T H M cs e) : clS I b f H M e.2.2.2.2.length (lkO cs H) cs un (LtO e.2.2.2.2) (I (f + 1)) (I (f + 2)) := z_cl hC.2.2.2.1 hC.2.2.2.2.1 hz.2.1 hz.2.2
theorem zR_c {I : mI} {f H M : Nat} {un : Bool} {cs : Nat → List Nat} {e : Lf} {r w : Int32} {E : Nat} (hH8 : H ≤ 8) (hM20 : M ≤ 20) (hL : cL I f H e) : skTop (TN un (LtO e.2.2.2.2) e.2.2.2.2.length r w (lkO cs H) (tvN (I (f + 1)) (I (f + 2)) (nI M) H cs) H) noB H M E = some (zR H M un cs e r w E) := by rw [zT_c hL]; exact zR_eq hH8 hM20
theorem zR_r {I : mI} {m H M : Nat} {un : Bool} {cs : Nat → List Nat} {e : Lf} {r w : Int32} {E : Nat} (hH8 : H ≤ 8) (hM20 : M ≤ 20) (hL : rL I m H e) : skTop (TN un (I (m + 24)) e.2.2.2.2.length r w (lkO cs H) (tvN (I (m + 1)) (I (m + 2)) (nI M) H cs) H) noB H M E = some (zR H M un cs e r w E) := by rw [zT_r hL]; exact zR_eq hH8 hM20
/-- riddles out of those that speak, asked: they are riddles of the street -/
theorem sub_sp {I : mI} {b f H M : Nat} {un : Bool} {cs : Nat → List Nat} {tx : Nat → List Int32} {e : Lf} {x : Int32} (hS : cS I b H M un cs tx) (hL : cL I f H e) : ∀ k, k < 8 → bt (nI (spB H cs e) &&& x) k = true → bt (I b 3) k = true := by
  intro k hk h
  rw [b_and, Bool.and_eq_true] at h
  have h2 := h.1
  rw [← sp_c hS hL, b_and, Bool.and_eq_true] at h2
  exact h2.1
theorem sub_rb {H : Nat} {cs : Nat → List Nat} {e : Lf} {x : Int32} : ∀ k, k < H → bt (nI (spB H cs e) &&& x) k = true → k < 32 → (!(cs k).isEmpty) = true := by
  intro k _ h hk
  rw [b_and, Bool.and_eq_true] at h
  exact (sp_bit hk h.1).2
theorem q_seeksR (m : Nat) (r w : Int32) (E : Nat) {t : Nat} {T : Nat → Nat} {fp : Int32} {rr : Nat → Int32} {H M : Nat} {un : Bool} {cs : Nat → List Nat} {tx : Nat → List Int32} {e : Lf} {im : Option Lf} {wk : Option (List Nat)} {n : Nat} {kd : mK} {I : mI} {J : mJ} {P : mP} (hC : RR m kd I P t T fp rr H M un cs tx e im wk) (hz : okZ t T H M cs e) (hE : E ≤ 1001) (hE1 : 1 ≤ E) (hr : ∀ k, k < H → bt r k = true → (!(cs k).isEmpty) = true) : Ct yX10_seeks cX10_seeks 6 (some .boolean) 5 0 0 [.ref m, .int r, .int w, .int (nI E)] n kd I J P (fun z n' kd' I' J' P' => z = .inl (some (.int (bz (gdR (zR H M un cs e r w E))))) ∧ n' = n ∧ kd' = kd ∧ J' = J ∧ P' = P ∧ rFr m I I' ∧ (gdR (zR H M un cs e r w E) = true → I' m 52 = nI (zR H M un cs e r w E).2.1.length ∧ ∀ i h, i < (zR H M un cs e r w E).2.1.length → h < H → I' (m + 27) (8 * i + h) = nI (nmF (zR H M un cs e r w E).2.1 i h))) := by
  obtain ⟨hM, hT, hSt, hLf, hIm, hWk⟩ := hC
  obtain ⟨okt, oks, okl⟩ := hz
  refine (c_seeksN m H M e.2.2.2.2.length (lkO cs H) cs un (I (m + 24)) (I (m + 1)) (I (m + 2)) (fun k => !(cs k).isEmpty) r w E (zR H M un cs e r w E) (z_rf hM hSt hLf oks okl) oks.2.1 oks.1.2 hE hE1 hr (zR_r oks.2.1 oks.1.2 hLf)).mono ?_
  rintro z n' kd' I' J' P' ⟨h0, g1, g2, g3, g4, hfr, g5, g6, g7⟩
  refine ⟨h0, g1, g2, g3, g4, hfr, fun hg => ?_⟩
  have hl := gdR_len hg
  have hc : cutF (zR H M un cs e r w E).2.1 = (zR H M un cs e r w E).2.1 := by unfold cutF; rw [if_pos hl]
  rw [hc] at g5 g7
  exact ⟨g5, fun i h hi hh => by rw [g7]; exact NR_at oks.2.1 _ i h hi hh⟩
theorem pcF_le (v : Int32) : ∀ n, pcF v n ≤ n
  | 0 => Nat.le_refl _
  | n + 1 => by
    show pcF v n + _ ≤ n + 1
    have := pcF_le v n
    split <;> omega
/-- couples -/
def hidI (a b c : Nat) : Int32 := ((nI c >>> (nI 1 &&& 31)) <<< (nI a &&& 31)) ||| ((nI c &&& nI 1) <<< (nI b &&& 31))
def fdR (H M : Nat) (un : Bool) (cs : Nat → List Nat) (e : Lf) (a b c : Nat) : Nat × List (Nat → Nat) × Bool := zR H M un cs e (nI (spB H cs e) &&& (hidI a b c ^^^ (-1))) (nI 1) 1001
def oneN (fs : List (Nat → Nat)) (h : Nat) : Bool := decide (pcF (nI (mayN fs h)) 21 = 1)
def gnN (fs : List (Nat → Nat)) (x y : Nat) : Nat := (if oneN fs x = true then 2 else 0) + (if oneN fs y = true then 0 else 1)
def g1N (H M : Nat) (un : Bool) (cs : Nat → List Nat) (e : Lf) (a b c : Nat) : Nat := gnN (fdR H M un cs e a b c).2.1 a b
def g2N (H M : Nat) (un : Bool) (cs : Nat → List Nat) (e : Lf) (a b c : Nat) : Nat := gnN (fdR H M un cs e a b c).2.1 b a
theorem gnN_le (fs : List (Nat → Nat)) (x y : Nat) : gnN fs x y ≤ 3 := by unfold gnN; split <;> split <;> omega
def fdA (H M : Nat) (un : Bool) (cs : Nat → List Nat) (e : Lf) (a b : Nat) : Nat → Nat → Bool
  | 0, _ => true
  | c + 1, k => gdR (fdR H M un cs e a b k) && fdA H M un cs e a b c (k + 1)
def rsB (g1 g2 : Nat → Nat) (c : Nat) : Bool := decide (g1 (c ^^^ 2) ≤ g1 c) && decide (g2 (c ^^^ 1) ≤ g2 c)
def rsC (g1 g2 : Nat → Nat) : Nat → Nat
  | 0 => 0
  | k + 1 => rsC g1 g2 k + if rsB g1 g2 k = true then 1 else 0
def rsF (g1 g2 : Nat → Nat) : Nat → Int32
  | 0 => -1
  | k + 1 => if rsF g1 g2 k = -1 then (if rsB g1 g2 k = true then nI k else -1) else rsF g1 g2 k
theorem rsC_le (g1 g2 : Nat → Nat) : ∀ k, rsC g1 g2 k ≤ k
  | 0 => Nat.le_refl _
  | k + 1 => by
    show rsC g1 g2 k + _ ≤ k + 1
    have := rsC_le g1 g2 k
    split <;> omega
theorem rsF_st {g1 g2 : Nat → Nat} {k : Nat} (h : ¬ rsF g1 g2 k = -1) : ∀ d, rsF g1 g2 (k + d) = rsF g1 g2 k
  | 0 => rfl
  | d + 1 => by
    show (if rsF g1 g2 (k + d) = -1 then _ else rsF g1 g2 (k + d)) = _
    rw [rsF_st h d, if_neg h]
def fdV (H M : Nat) (un : Bool) (cs : Nat → List Nat) (e : Lf) (a b what : Nat) : Int32 := if fdA H M un cs e a b 4 0 = true then (if what = 0 then nI (rsC (g1N H M un cs e a b) (g2N H M un cs e a b) 4) else rsF (g1N H M un cs e a b) (g2N H M un cs e a b) 4) else -2
theorem xor_lt4 {k x : Nat} (hk : k < 4) (hx : x < 4) : k ^^^ x < 4 := Nat.xor_lt_two_pow (n := 2) hk hx
theorem xor_nI {a b : Nat} : nI a ^^^ nI b = nI (a ^^^ b) := b_ext (fun i hi => by rw [b_xor, bt_nI _ hi, bt_nI _ hi, bt_nI _ hi, Nat.testBit_xor])
theorem dX0_gainsOfFeud_0 : decode cX0_gainsOfFeud 0 = .ok (.iconst 0, 1) := by decide +kernel
theorem dX0_gainsOfFeud_1 : decode cX0_gainsOfFeud 1 = .ok (.istore 5, 2) := by decide +kernel
theorem dX0_gainsOfFeud_3 : decode cX0_gainsOfFeud 3 = .ok (.iload 5, 2) := by decide +kernel
theorem dX0_gainsOfFeud_5 : decode cX0_gainsOfFeud 5 = .ok (.iconst 4, 1) := by decide +kernel
theorem dX0_gainsOfFeud_6 : decode cX0_gainsOfFeud 6 = .ok (.if_icmp .ge 162, 3) := by decide +kernel
theorem dX0_gainsOfFeud_9 : decode cX0_gainsOfFeud 9 = .ok (.iload 5, 2) := by decide +kernel
theorem dX0_gainsOfFeud_11 : decode cX0_gainsOfFeud 11 = .ok (.iconst 1, 1) := by decide +kernel
theorem dX0_gainsOfFeud_12 : decode cX0_gainsOfFeud 12 = .ok (.ishr, 1) := by decide +kernel
theorem dX0_gainsOfFeud_13 : decode cX0_gainsOfFeud 13 = .ok (.iload_n 3, 1) := by decide +kernel
theorem dX0_gainsOfFeud_14 : decode cX0_gainsOfFeud 14 = .ok (.ishl, 1) := by decide +kernel
theorem dX0_gainsOfFeud_15 : decode cX0_gainsOfFeud 15 = .ok (.iload 5, 2) := by decide +kernel
theorem dX0_gainsOfFeud_17 : decode cX0_gainsOfFeud 17 = .ok (.iconst 1, 1) := by decide +kernel
theorem dX0_gainsOfFeud_18 : decode cX0_gainsOfFeud 18 = .ok (.iand, 1) := by decide +kernel
theorem dX0_gainsOfFeud_19 : decode cX0_gainsOfFeud 19 = .ok (.iload 4, 2) := by decide +kernel
theorem dX0_gainsOfFeud_21 : decode cX0_gainsOfFeud 21 = .ok (.ishl, 1) := by decide +kernel
theorem dX0_gainsOfFeud_22 : decode cX0_gainsOfFeud 22 = .ok (.ior, 1) := by decide +kernel
theorem dX0_gainsOfFeud_23 : decode cX0_gainsOfFeud 23 = .ok (.istore 6, 2) := by decide +kernel
theorem dX0_gainsOfFeud_25 : decode cX0_gainsOfFeud 25 = .ok (.aload_n 0, 1) := by decide +kernel
theorem dX0_gainsOfFeud_26 : decode cX0_gainsOfFeud 26 = .ok (.getfield 12, 3) := by decide +kernel
theorem dX0_gainsOfFeud_29 : decode cX0_gainsOfFeud 29 = .ok (.aload_n 1, 1) := by decide +kernel
theorem dX0_gainsOfFeud_30 : decode cX0_gainsOfFeud 30 = .ok (.aload_n 2, 1) := by decide +kernel
theorem dX0_gainsOfFeud_31 : decode cX0_gainsOfFeud 31 = .ok (.aload_n 1, 1) := by decide +kernel
theorem dX0_gainsOfFeud_32 : decode cX0_gainsOfFeud 32 = .ok (.aload_n 2, 1) := by decide +kernel
theorem dX0_gainsOfFeud_33 : decode cX0_gainsOfFeud 33 = .ok (.invokevirtual 32, 3) := by decide +kernel
theorem dX0_gainsOfFeud_36 : decode cX0_gainsOfFeud 36 = .ok (.iload 6, 2) := by decide +kernel
theorem dX0_gainsOfFeud_38 : decode cX0_gainsOfFeud 38 = .ok (.iconst (-1), 1) := by decide +kernel
theorem dX0_gainsOfFeud_39 : decode cX0_gainsOfFeud 39 = .ok (.ixor, 1) := by decide +kernel
theorem dX0_gainsOfFeud_40 : decode cX0_gainsOfFeud 40 = .ok (.iand, 1) := by decide +kernel
theorem dX0_gainsOfFeud_41 : decode cX0_gainsOfFeud 41 = .ok (.iconst 1, 1) := by decide +kernel
theorem dX0_gainsOfFeud_42 : decode cX0_gainsOfFeud 42 = .ok (.invokevirtual 38, 3) := by decide +kernel
theorem dX0_gainsOfFeud_45 : decode cX0_gainsOfFeud 45 = .ok (.aload_n 0, 1) := by decide +kernel
theorem dX0_gainsOfFeud_46 : decode cX0_gainsOfFeud 46 = .ok (.getfield 12, 3) := by decide +kernel
theorem dX0_gainsOfFeud_49 : decode cX0_gainsOfFeud 49 = .ok (.invokevirtual 66, 3) := by decide +kernel
theorem dX0_gainsOfFeud_52 : decode cX0_gainsOfFeud 52 = .ok (.bipush (-2), 2) := by decide +kernel
theorem dX0_gainsOfFeud_54 : decode cX0_gainsOfFeud 54 = .ok (.if_icmp .ne 5, 3) := by decide +kernel
theorem dX0_gainsOfFeud_57 : decode cX0_gainsOfFeud 57 = .ok (.iconst 0, 1) := by decide +kernel
theorem dX0_gainsOfFeud_58 : decode cX0_gainsOfFeud 58 = .ok (.ireturn, 1) := by decide +kernel
theorem dX0_gainsOfFeud_59 : decode cX0_gainsOfFeud 59 = .ok (.aload_n 0, 1) := by decide +kernel
theorem dX0_gainsOfFeud_60 : decode cX0_gainsOfFeud 60 = .ok (.getfield 12, 3) := by decide +kernel
theorem dX0_gainsOfFeud_63 : decode cX0_gainsOfFeud 63 = .ok (.getfield 70, 3) := by decide +kernel
theorem dX0_gainsOfFeud_66 : decode cX0_gainsOfFeud 66 = .ok (.iload_n 3, 1) := by decide +kernel
theorem dX0_gainsOfFeud_67 : decode cX0_gainsOfFeud 67 = .ok (.iaload, 1) := by decide +kernel
theorem dX0_gainsOfFeud_68 : decode cX0_gainsOfFeud 68 = .ok (.invokestatic 46, 3) := by decide +kernel
theorem dX0_gainsOfFeud_71 : decode cX0_gainsOfFeud 71 = .ok (.iconst 1, 1) := by decide +kernel
theorem dX0_gainsOfFeud_72 : decode cX0_gainsOfFeud 72 = .ok (.if_icmp .ne 7, 3) := by decide +kernel
theorem dX0_gainsOfFeud_75 : decode cX0_gainsOfFeud 75 = .ok (.iconst 1, 1) := by decide +kernel
theorem dX0_gainsOfFeud_76 : decode cX0_gainsOfFeud 76 = .ok (.goto 4, 3) := by decide +kernel
theorem dX0_gainsOfFeud_79 : decode cX0_gainsOfFeud 79 = .ok (.iconst 0, 1) := by decide +kernel
theorem dX0_gainsOfFeud_80 : decode cX0_gainsOfFeud 80 = .ok (.istore 7, 2) := by decide +kernel
theorem dX0_gainsOfFeud_82 : decode cX0_gainsOfFeud 82 = .ok (.aload_n 0, 1) := by decide +kernel
theorem dX0_gainsOfFeud_83 : decode cX0_gainsOfFeud 83 = .ok (.getfield 12, 3) := by decide +kernel
theorem dX0_gainsOfFeud_86 : decode cX0_gainsOfFeud 86 = .ok (.getfield 70, 3) := by decide +kernel
theorem dX0_gainsOfFeud_89 : decode cX0_gainsOfFeud 89 = .ok (.iload 4, 2) := by decide +kernel
theorem dX0_gainsOfFeud_91 : decode cX0_gainsOfFeud 91 = .ok (.iaload, 1) := by decide +kernel
theorem dX0_gainsOfFeud_92 : decode cX0_gainsOfFeud 92 = .ok (.invokestatic 46, 3) := by decide +kernel
theorem dX0_gainsOfFeud_95 : decode cX0_gainsOfFeud 95 = .ok (.iconst 1, 1) := by decide +kernel
theorem dX0_gainsOfFeud_96 : decode cX0_gainsOfFeud 96 = .ok (.if_icmp .ne 7, 3) := by decide +kernel
theorem dX0_gainsOfFeud_99 : decode cX0_gainsOfFeud 99 = .ok (.iconst 1, 1) := by decide +kernel
theorem dX0_gainsOfFeud_100 : decode cX0_gainsOfFeud 100 = .ok (.goto 4, 3) := by decide +kernel
theorem dX0_gainsOfFeud_103 : decode cX0_gainsOfFeud 103 = .ok (.iconst 0, 1) := by decide +kernel
theorem dX0_gainsOfFeud_104 : decode cX0_gainsOfFeud 104 = .ok (.istore 8, 2) := by decide +kernel
theorem dX0_gainsOfFeud_106 : decode cX0_gainsOfFeud 106 = .ok (.aload_n 0, 1) := by decide +kernel
theorem dX0_gainsOfFeud_107 : decode cX0_gainsOfFeud 107 = .ok (.getfield 18, 3) := by decide +kernel
theorem dX0_gainsOfFeud_110 : decode cX0_gainsOfFeud 110 = .ok (.iload 5, 2) := by decide +kernel
theorem dX0_gainsOfFeud_112 : decode cX0_gainsOfFeud 112 = .ok (.iload 7, 2) := by decide +kernel
theorem dX0_gainsOfFeud_114 : decode cX0_gainsOfFeud 114 = .ok (.ifCond .eq 7, 3) := by decide +kernel
theorem dX0_gainsOfFeud_117 : decode cX0_gainsOfFeud 117 = .ok (.iconst 2, 1) := by decide +kernel
theorem dX0_gainsOfFeud_118 : decode cX0_gainsOfFeud 118 = .ok (.goto 4, 3) := by decide +kernel
theorem dX0_gainsOfFeud_121 : decode cX0_gainsOfFeud 121 = .ok (.iconst 0, 1) := by decide +kernel
theorem dX0_gainsOfFeud_122 : decode cX0_gainsOfFeud 122 = .ok (.iload 8, 2) := by decide +kernel
theorem dX0_gainsOfFeud_124 : decode cX0_gainsOfFeud 124 = .ok (.ifCond .eq 7, 3) := by decide +kernel
theorem dX0_gainsOfFeud_127 : decode cX0_gainsOfFeud 127 = .ok (.iconst 0, 1) := by decide +kernel
theorem dX0_gainsOfFeud_128 : decode cX0_gainsOfFeud 128 = .ok (.goto 4, 3) := by decide +kernel
theorem dX0_gainsOfFeud_131 : decode cX0_gainsOfFeud 131 = .ok (.iconst 1, 1) := by decide +kernel
theorem dX0_gainsOfFeud_132 : decode cX0_gainsOfFeud 132 = .ok (.iadd, 1) := by decide +kernel
theorem dX0_gainsOfFeud_133 : decode cX0_gainsOfFeud 133 = .ok (.iastore, 1) := by decide +kernel
theorem dX0_gainsOfFeud_134 : decode cX0_gainsOfFeud 134 = .ok (.aload_n 0, 1) := by decide +kernel
theorem dX0_gainsOfFeud_135 : decode cX0_gainsOfFeud 135 = .ok (.getfield 22, 3) := by decide +kernel
theorem dX0_gainsOfFeud_138 : decode cX0_gainsOfFeud 138 = .ok (.iload 5, 2) := by decide +kernel
theorem dX0_gainsOfFeud_140 : decode cX0_gainsOfFeud 140 = .ok (.iload 8, 2) := by decide +kernel
theorem dX0_gainsOfFeud_142 : decode cX0_gainsOfFeud 142 = .ok (.ifCond .eq 7, 3) := by decide +kernel
theorem dX0_gainsOfFeud_145 : decode cX0_gainsOfFeud 145 = .ok (.iconst 2, 1) := by decide +kernel
theorem dX0_gainsOfFeud_146 : decode cX0_gainsOfFeud 146 = .ok (.goto 4, 3) := by decide +kernel
theorem dX0_gainsOfFeud_149 : decode cX0_gainsOfFeud 149 = .ok (.iconst 0, 1) := by decide +kernel
theorem dX0_gainsOfFeud_150 : decode cX0_gainsOfFeud 150 = .ok (.iload 7, 2) := by decide +kernel
theorem dX0_gainsOfFeud_152 : decode cX0_gainsOfFeud 152 = .ok (.ifCond .eq 7, 3) := by decide +kernel
theorem dX0_gainsOfFeud_155 : decode cX0_gainsOfFeud 155 = .ok (.iconst 0, 1) := by decide +kernel
theorem dX0_gainsOfFeud_156 : decode cX0_gainsOfFeud 156 = .ok (.goto 4, 3) := by decide +kernel
theorem dX0_gainsOfFeud_159 : decode cX0_gainsOfFeud 159 = .ok (.iconst 1, 1) := by decide +kernel
theorem dX0_gainsOfFeud_160 : decode cX0_gainsOfFeud 160 = .ok (.iadd, 1) := by decide +kernel
theorem dX0_gainsOfFeud_161 : decode cX0_gainsOfFeud 161 = .ok (.iastore, 1) := by decide +kernel
theorem dX0_gainsOfFeud_162 : decode cX0_gainsOfFeud 162 = .ok (.iinc 5 1, 3) := by decide +kernel
theorem dX0_gainsOfFeud_165 : decode cX0_gainsOfFeud 165 = .ok (.goto (-162), 3) := by decide +kernel
theorem dX0_gainsOfFeud_168 : decode cX0_gainsOfFeud 168 = .ok (.iconst 1, 1) := by decide +kernel
theorem dX0_gainsOfFeud_169 : decode cX0_gainsOfFeud 169 = .ok (.ireturn, 1) := by decide +kernel

set_option maxHeartbeats 4000000 in
set_option maxRecDepth 100000 in
theorem w_gains (o b s f l h1 h2 : Nat) {t : Nat} {T : Nat → Nat} {fp : Int32} {rr : Nat → Int32} {H M : Nat} {un : Bool} {cs : Nat → List Nat} {tx : Nat → List Int32} {e : Lf} {im : Option Lf} {wk : Option (List Nat)} {n : Nat} {kd : mK} {I0 : mI} {J0 : mJ} {P0 : mP} (ha : h1 < H) (hb : h2 < H) : ∀ (c k : Nat) (z6 z7 z8 : Option Value) (I : mI) (J : mJ) (P : mP), k + c = 4 → CR o b s f l n kd I J P t T fp rr H M un cs tx e im wk → okZ t T H M cs e → Bs o I0 I J0 J P0 P → (∀ j, j < k → I (o + 47 + 7) j = nI (g1N H M un cs e h1 h2 j) ∧ I (o + 47 + 8) j = nI (g2N H M un cs e h1 h2 j)) → Ru yX0_gainsOfFeud.cls cX0_gainsOfFeud 9 (some .boolean) yX0_gainsOfFeud.name 8 (fun y n' kd' I' J' P' => y = .inl (some (.int (bz (fdA H M un cs e h1 h2 c k)))) ∧ n' = n ∧ kd' = kd ∧ Bs o I0 I' J0 J' P0 P' ∧ CR o b s f l n kd I' J' P' t T fp rr H M un cs tx e im wk ∧ (fdA H M un cs e h1 h2 c k = true → ∀ j, j < 4 → I' (o + 47 + 7) j = nI (g1N H M un cs e h1 h2 j) ∧ I' (o + 47 + 8) j = nI (g2N H M un cs e h1 h2 j))) 0 0 3 [some (.ref (o + 47)), some (.ref b), some (.ref f), some (.int (nI h1)), some (.int (nI h2)), some (.int (nI k)), z6, z7, z8] [] n kd I J P
  | 0, k, z6, z7, z8, I, J, P, hk, hC, hz, hB, hro => by
    rw [show k = 4 by omega]
    refine r_iload dX0_gainsOfFeud_3 rfl ?_
    refine r_iconst (v := nI 4) dX0_gainsOfFeud_5 (by decide) ?_
    refine r_icmp_ge (tgt := 168) dX0_gainsOfFeud_6 (by decide) (fun _ => ?_) (fun hz => absurd (show _ from (by rw [nI_leI (by omega) (by omega)]; omega)) hz)
    refine r_iconst (v := nI 1) dX0_gainsOfFeud_168 (by decide) ?_
    refine r_zret rfl dX0_gainsOfFeud_169 (by first | exact Or.inl rfl | exact Or.inr rfl | assumption) ?_
    exact ⟨rfl, rfl, rfl, hB, hC, fun _ j hj => hro j (by omega)⟩
  | c + 1, k, z6, z7, z8, I, J, P, hk, hC, hz, hB, hro => by
    have oks := hz.2.1
    have hH8 : H ≤ 8 := oks.2.1
    have hM20 : 2 ≤ M ∧ M ≤ 20 := oks.1
    have hrg : fRng H M (fdR H M un cs e h1 h2 k).2.1 := (zR_rng hH8 hM20.2).2
    have hC0 := hC
    obtain ⟨hX, hsc, hT, hSt, hLf, hIm, hWk, hQc, hPc⟩ := hC
    have hS := hX.S
    have hL := hX.L
    have hat := hX.at
    obtain ⟨a0, a1, a2, a3, a4, a5, a6⟩ : kA kd P (o + 47) := hX.2.2.2.1.2.1
    rcases gd2 (gdR (fdR H M un cs e h1 h2 k)) with hg | hg
    · skip
      refine r_iload dX0_gainsOfFeud_3 rfl ?_
      refine r_iconst (v := nI 4) dX0_gainsOfFeud_5 (by decide) ?_
      refine r_icmp_ge (tgt := 168) dX0_gainsOfFeud_6 (by decide) (fun hz => absurd hz (show ¬ _ from (by rw [nI_leI (by omega) (by omega)]; omega))) (fun _ => ?_)
      refine r_iload dX0_gainsOfFeud_9 rfl ?_
      refine r_iconst (v := nI 1) dX0_gainsOfFeud_11 (by decide) ?_
      refine r_ishr dX0_gainsOfFeud_12 ?_
      refine r_iload_n dX0_gainsOfFeud_13 rfl ?_
      refine r_ishl dX0_gainsOfFeud_14 ?_
      refine r_iload dX0_gainsOfFeud_15 rfl ?_
      refine r_iconst (v := nI 1) dX0_gainsOfFeud_17 (by decide) ?_
      refine r_iand dX0_gainsOfFeud_18 ?_
      refine r_iload dX0_gainsOfFeud_19 rfl ?_
      refine r_ishl dX0_gainsOfFeud_21 ?_
      refine r_ior dX0_gainsOfFeud_22 ?_
      refine r_istore dX0_gainsOfFeud_23 (by decide) ?_
      refine r_aload_n dX0_gainsOfFeud_25 rfl ?_
      refine r_getR dX0_gainsOfFeud_26 fl_X0_12 rfl a0 a4 ?_
      refine r_aload_n dX0_gainsOfFeud_29 rfl ?_
      refine r_aload_n dX0_gainsOfFeud_30 rfl ?_
      refine r_aload_n dX0_gainsOfFeud_31 rfl ?_
      refine r_aload_n dX0_gainsOfFeud_32 rfl ?_
      refine r_virtE (c_X7_speaking b f hS hL) lk_X0_32 mc_X7_speaking dX0_gainsOfFeud_33 hS.1 (by decide) rfl rfl (Nat.le_of_ble_eq_true rfl) ?_
      rw [sp_c hSt hLf]
      refine r_iload dX0_gainsOfFeud_36 rfl ?_
      refine r_iconst (v := (-1)) dX0_gainsOfFeud_38 (by decide) ?_
      refine r_ixor dX0_gainsOfFeud_39 ?_
      refine r_iand dX0_gainsOfFeud_40 ?_
      refine r_iconst (v := nI 1) dX0_gainsOfFeud_41 (by decide) ?_
      refine r_virtV (c_setUpN (o + 48) b f H M e.2.2.2.2.length (nI (spB H cs e) &&& (hidI h1 h2 k ^^^ (-1))) (nI 1) (lkO cs H) cs un (LtO e.2.2.2.2) (I (f + 1)) (I (f + 2)) hS hL a1 (by omega) (by omega) (by omega) hH8 (hC0.clz hz)) lk_X0_38 mc_X6_setUp dX0_gainsOfFeud_42 a1.1 (by decide) rfl rfl (Nat.le_of_ble_eq_true rfl) ?_
      refine r_aload_n dX0_gainsOfFeud_45 rfl ?_
      refine r_getR dX0_gainsOfFeud_46 fl_X0_12 rfl a0 (show suP P (o + 48) b f (o + 47) 0 = some (o + 48) from by unfold suP; rw [am_up_n _ _ (by omega)]; exact a4) ?_
      refine r_virt (kc2 := 0) (ks2 := 0) (c_seekAllN (o + 48) b f H M e.2.2.2.2.length (nI (spB H cs e) &&& (hidI h1 h2 k ^^^ (-1))) (nI 1) (lkO cs H) cs un (LtO e.2.2.2.2) (I (f + 1)) (I (f + 2)) (fdR H M un cs e h1 h2 k) hS hL a1 (by omega) (by omega) (by omega) hH8 (hC0.clz hz) hM20.2 (sub_sp hSt hLf) (zR_c hH8 hM20.2 hLf)) lk_X0_66 mc_X6_seekAll dX0_gainsOfFeud_49 a1.1 (by decide) rfl rfl (Nat.le_of_ble_eq_true rfl) (by decide) (by decide) (fun _ _ _ _ _ _ h => nomatch h.1) ?_
      rintro v1 n1 kd1 I1 J1 P1 ⟨h00, rfl, rfl, hqf, hsp1, hf9, hf10, hf5, hJ4⟩
      cases h00
      simp only [Option.toList, List.nil_append, List.cons_append]
      have hC1 := hC0.qf (Or.inl rfl) hqf
      have hB1 := hB.qf (x := b) (by omega) hqf
      obtain ⟨c0, c1, c2, c3, c4, c5, c6⟩ : kA kd1 P1 (o + 47) := hC1.1.2.2.2.1.2.1
      rw [skA_f hg]
      refine r_bipush (v := (-2)) dX0_gainsOfFeud_52 (by decide) ?_
      refine r_icmp_ne (tgt := 59) dX0_gainsOfFeud_54 (by decide) (fun hz => absurd (show _ from rfl) hz) (fun _ => ?_)
      refine r_iconst (v := nI 0) dX0_gainsOfFeud_57 (by decide) ?_
      refine r_zret rfl dX0_gainsOfFeud_58 (by first | exact Or.inl rfl | exact Or.inr rfl | assumption) ?_
      exact ⟨by rw [show fdA H M un cs e h1 h2 (c + 1) k = false from by show (gdR (fdR H M un cs e h1 h2 k) && _) = false; rw [hg]; rfl]; rfl, rfl, rfl, hB1, hC1, fun q => absurd q (by rw [show fdA H M un cs e h1 h2 (c + 1) k = false from by show (gdR (fdR H M un cs e h1 h2 k) && _) = false; rw [hg]; rfl]; decide)⟩
    · have hl := gdR_len hg
      by_cases hA1 : pcF (nI (mayN (fdR H M un cs e h1 h2 k).2.1 h1)) 21 = 1
      · have hAo : oneN (fdR H M un cs e h1 h2 k).2.1 h1 = true := decide_eq_true hA1
        by_cases hB9 : pcF (nI (mayN (fdR H M un cs e h1 h2 k).2.1 h2)) 21 = 1
        · have hBo : oneN (fdR H M un cs e h1 h2 k).2.1 h2 = true := decide_eq_true hB9
          refine r_iload dX0_gainsOfFeud_3 rfl ?_
          refine r_iconst (v := nI 4) dX0_gainsOfFeud_5 (by decide) ?_
          refine r_icmp_ge (tgt := 168) dX0_gainsOfFeud_6 (by decide) (fun hz => absurd hz (show ¬ _ from (by rw [nI_leI (by omega) (by omega)]; omega))) (fun _ => ?_)
          refine r_iload dX0_gainsOfFeud_9 rfl ?_
          refine r_iconst (v := nI 1) dX0_gainsOfFeud_11 (by decide) ?_
          refine r_ishr dX0_gainsOfFeud_12 ?_
          refine r_iload_n dX0_gainsOfFeud_13 rfl ?_
          refine r_ishl dX0_gainsOfFeud_14 ?_
          refine r_iload dX0_gainsOfFeud_15 rfl ?_
          refine r_iconst (v := nI 1) dX0_gainsOfFeud_17 (by decide) ?_
          refine r_iand dX0_gainsOfFeud_18 ?_
          refine r_iload dX0_gainsOfFeud_19 rfl ?_
          refine r_ishl dX0_gainsOfFeud_21 ?_
          refine r_ior dX0_gainsOfFeud_22 ?_
          refine r_istore dX0_gainsOfFeud_23 (by decide) ?_
          refine r_aload_n dX0_gainsOfFeud_25 rfl ?_
          refine r_getR dX0_gainsOfFeud_26 fl_X0_12 rfl a0 a4 ?_
          refine r_aload_n dX0_gainsOfFeud_29 rfl ?_
          refine r_aload_n dX0_gainsOfFeud_30 rfl ?_
          refine r_aload_n dX0_gainsOfFeud_31 rfl ?_
          refine r_aload_n dX0_gainsOfFeud_32 rfl ?_
          refine r_virtE (c_X7_speaking b f hS hL) lk_X0_32 mc_X7_speaking dX0_gainsOfFeud_33 hS.1 (by decide) rfl rfl (Nat.le_of_ble_eq_true rfl) ?_
          rw [sp_c hSt hLf]
          refine r_iload dX0_gainsOfFeud_36 rfl ?_
          refine r_iconst (v := (-1)) dX0_gainsOfFeud_38 (by decide) ?_
          refine r_ixor dX0_gainsOfFeud_39 ?_
          refine r_iand dX0_gainsOfFeud_40 ?_
          refine r_iconst (v := nI 1) dX0_gainsOfFeud_41 (by decide) ?_
          refine r_virtV (c_setUpN (o + 48) b f H M e.2.2.2.2.length (nI (spB H cs e) &&& (hidI h1 h2 k ^^^ (-1))) (nI 1) (lkO cs H) cs un (LtO e.2.2.2.2) (I (f + 1)) (I (f + 2)) hS hL a1 (by omega) (by omega) (by omega) hH8 (hC0.clz hz)) lk_X0_38 mc_X6_setUp dX0_gainsOfFeud_42 a1.1 (by decide) rfl rfl (Nat.le_of_ble_eq_true rfl) ?_
          refine r_aload_n dX0_gainsOfFeud_45 rfl ?_
          refine r_getR dX0_gainsOfFeud_46 fl_X0_12 rfl a0 (show suP P (o + 48) b f (o + 47) 0 = some (o + 48) from by unfold suP; rw [am_up_n _ _ (by omega)]; exact a4) ?_
          refine r_virt (kc2 := 0) (ks2 := 0) (c_seekAllN (o + 48) b f H M e.2.2.2.2.length (nI (spB H cs e) &&& (hidI h1 h2 k ^^^ (-1))) (nI 1) (lkO cs H) cs un (LtO e.2.2.2.2) (I (f + 1)) (I (f + 2)) (fdR H M un cs e h1 h2 k) hS hL a1 (by omega) (by omega) (by omega) hH8 (hC0.clz hz) hM20.2 (sub_sp hSt hLf) (zR_c hH8 hM20.2 hLf)) lk_X0_66 mc_X6_seekAll dX0_gainsOfFeud_49 a1.1 (by decide) rfl rfl (Nat.le_of_ble_eq_true rfl) (by decide) (by decide) (fun _ _ _ _ _ _ h => nomatch h.1) ?_
          rintro v1 n1 kd1 I1 J1 P1 ⟨h00, rfl, rfl, hqf, hsp1, hf9, hf10, hf5, hJ4⟩
          cases h00
          simp only [Option.toList, List.nil_append, List.cons_append]
          have hC1 := hC0.qf (Or.inl rfl) hqf
          have hB1 := hB.qf (x := b) (by omega) hqf
          obtain ⟨c0, c1, c2, c3, c4, c5, c6⟩ : kA kd1 P1 (o + 47) := hC1.1.2.2.2.1.2.1
          rw [skA_t hg]
          refine r_bipush (v := (-2)) dX0_gainsOfFeud_52 (by decide) ?_
          refine r_icmp_ne (tgt := 59) dX0_gainsOfFeud_54 (by decide) (fun _ => ?_) (fun hz => absurd hz (show ¬ _ from (nI_m2 (by omega))))
          refine r_aload_n dX0_gainsOfFeud_59 rfl ?_
          refine r_getR dX0_gainsOfFeud_60 fl_X0_12 rfl c0 c4 ?_
          refine r_getR dX0_gainsOfFeud_63 fl_X0_70 rfl c1.1 c1.2.2.2.2.2.2.2.2.2.2 ?_
          refine r_iload_n dX0_gainsOfFeud_66 rfl ?_
          refine r_iald dX0_gainsOfFeud_67 c1.2.2.2.2.2.1 (nI_in8 8 (by omega) (by decide)) (nI_clamp (by omega)) ?_
          rw [show I1 (o + 47 + 1 + 5) h1 = nI (mayN (fdR H M un cs e h1 h2 k).2.1 h1) from by rw [show o + 47 + 1 + 5 = o + 48 + 5 by omega, hf5]; exact SR_may hM20.2 ha (if_pos (by omega)) _ hrg]
          refine r_statE (c_J6_bitCount_0f7a4 (nI (mayN (fdR H M un cs e h1 h2 k).2.1 h1))) lk_X0_46 mc_J6_bitCount_0f7a4 dX0_gainsOfFeud_68 (by decide) rfl rfl (Nat.le_of_ble_eq_true rfl) ?_
          rw [bc_21 (mayN_lt hrg hM20.2 ha)]
          refine r_iconst (v := nI 1) dX0_gainsOfFeud_71 (by decide) ?_
          refine r_icmp_ne (tgt := 79) dX0_gainsOfFeud_72 (by decide) (fun hz => absurd (show _ from (by rw [hA1])) hz) (fun _ => ?_)
          refine r_iconst (v := nI 1) dX0_gainsOfFeud_75 (by decide) ?_
          refine r_goto (tgt := 80) dX0_gainsOfFeud_76 (by decide) ?_
          refine r_istore dX0_gainsOfFeud_80 (by decide) ?_
          refine r_aload_n dX0_gainsOfFeud_82 rfl ?_
          refine r_getR dX0_gainsOfFeud_83 fl_X0_12 rfl c0 c4 ?_
          refine r_getR dX0_gainsOfFeud_86 fl_X0_70 rfl c1.1 c1.2.2.2.2.2.2.2.2.2.2 ?_
          refine r_iload dX0_gainsOfFeud_89 rfl ?_
          refine r_iald dX0_gainsOfFeud_91 c1.2.2.2.2.2.1 (nI_in8 8 (by omega) (by decide)) (nI_clamp (by omega)) ?_
          rw [show I1 (o + 47 + 1 + 5) h2 = nI (mayN (fdR H M un cs e h1 h2 k).2.1 h2) from by rw [show o + 47 + 1 + 5 = o + 48 + 5 by omega, hf5]; exact SR_may hM20.2 hb (if_pos (by omega)) _ hrg]
          refine r_statE (c_J6_bitCount_0f7a4 (nI (mayN (fdR H M un cs e h1 h2 k).2.1 h2))) lk_X0_46 mc_J6_bitCount_0f7a4 dX0_gainsOfFeud_92 (by decide) rfl rfl (Nat.le_of_ble_eq_true rfl) ?_
          rw [bc_21 (mayN_lt hrg hM20.2 hb)]
          refine r_iconst (v := nI 1) dX0_gainsOfFeud_95 (by decide) ?_
          refine r_icmp_ne (tgt := 103) dX0_gainsOfFeud_96 (by decide) (fun hz => absurd (show _ from (by rw [hB9])) hz) (fun _ => ?_)
          refine r_iconst (v := nI 1) dX0_gainsOfFeud_99 (by decide) ?_
          refine r_goto (tgt := 104) dX0_gainsOfFeud_100 (by decide) ?_
          refine r_istore dX0_gainsOfFeud_104 (by decide) ?_
          refine r_aload_n dX0_gainsOfFeud_106 rfl ?_
          refine r_getR dX0_gainsOfFeud_107 fl_X0_18 rfl c0 c5 ?_
          refine r_iload dX0_gainsOfFeud_110 rfl ?_
          refine r_iload dX0_gainsOfFeud_112 rfl ?_
          refine r_if_eq (tgt := 121) dX0_gainsOfFeud_114 (by decide) (fun hz => absurd hz (show ¬ _ from (by decide))) (fun _ => ?_)
          refine r_iconst (v := nI 2) dX0_gainsOfFeud_117 (by decide) ?_
          refine r_goto (tgt := 122) dX0_gainsOfFeud_118 (by decide) ?_
          refine r_iload dX0_gainsOfFeud_122 rfl ?_
          refine r_if_eq (tgt := 131) dX0_gainsOfFeud_124 (by decide) (fun hz => absurd hz (show ¬ _ from (by decide))) (fun _ => ?_)
          refine r_iconst (v := nI 0) dX0_gainsOfFeud_127 (by decide) ?_
          refine r_goto (tgt := 132) dX0_gainsOfFeud_128 (by decide) ?_
          refine r_iadd dX0_gainsOfFeud_132 ?_
          rw [nI_add]
          refine r_iast dX0_gainsOfFeud_133 c2 (nI_in8 4 (by omega) (by decide)) (nI_clamp (by omega)) ?_
          refine r_aload_n dX0_gainsOfFeud_134 rfl ?_
          refine r_getR dX0_gainsOfFeud_135 fl_X0_22 rfl c0 c6 ?_
          refine r_iload dX0_gainsOfFeud_138 rfl ?_
          refine r_iload dX0_gainsOfFeud_140 rfl ?_
          refine r_if_eq (tgt := 149) dX0_gainsOfFeud_142 (by decide) (fun hz => absurd hz (show ¬ _ from (by decide))) (fun _ => ?_)
          refine r_iconst (v := nI 2) dX0_gainsOfFeud_145 (by decide) ?_
          refine r_goto (tgt := 150) dX0_gainsOfFeud_146 (by decide) ?_
          refine r_iload dX0_gainsOfFeud_150 rfl ?_
          refine r_if_eq (tgt := 159) dX0_gainsOfFeud_152 (by decide) (fun hz => absurd hz (show ¬ _ from (by decide))) (fun _ => ?_)
          refine r_iconst (v := nI 0) dX0_gainsOfFeud_155 (by decide) ?_
          refine r_goto (tgt := 160) dX0_gainsOfFeud_156 (by decide) ?_
          refine r_iadd dX0_gainsOfFeud_160 ?_
          rw [nI_add]
          refine r_iast dX0_gainsOfFeud_161 c3 (nI_in8 4 (by omega) (by decide)) (nI_clamp (by omega)) ?_
          refine r_iinc (v := nI (k + 1)) dX0_gainsOfFeud_162 rfl (nI_inc k) ?_
          refine r_goto (tgt := 3) dX0_gainsOfFeud_165 (by decide) ?_
          have hv1 : g1N H M un cs e h1 h2 k = 2 := by unfold g1N gnN; rw [hAo, hBo]; rfl
          have hv2 : g2N H M un cs e h1 h2 k = 2 := by unfold g2N gnN; rw [hAo, hBo]; rfl
          refine RuZ.mono (w_gains o b s f l h1 h2 ha hb c (k + 1) _ _ _ (va_up (va_up I1 (o + 47 + 7) _) (o + 47 + 8) _) J1 P1 (by omega) ((hC1.up (by omega)).up (by omega)) hz ((hB1.up (by omega)).up (by omega)) (fun j hj => ?_)) (fun y n' kd' I' J' P' q => ?_)
          · by_cases jk : j = k
            · rw [jk, hv1, hv2, am_up_s]
              simp (disch := omega) only [am_up_s, am_up_n]
              first | exact ⟨rfl, rfl⟩ | exact ⟨trivial, trivial⟩
            · have hj2 := hro j (by omega)
              simp (disch := omega) only [am_up_s, am_up_n]
              rw [hqf.1 (o + 47 + 7) (by omega) (by omega), hqf.1 (o + 47 + 8) (by omega) (by omega)]
              exact hj2
          · have hx : fdA H M un cs e h1 h2 (c + 1) k = fdA H M un cs e h1 h2 c (k + 1) := by show (gdR (fdR H M un cs e h1 h2 k) && _) = _; rw [hg]; rfl
            rw [hx]
            exact q
        · have hBo : oneN (fdR H M un cs e h1 h2 k).2.1 h2 = false := decide_eq_false hB9
          refine r_iload dX0_gainsOfFeud_3 rfl ?_
          refine r_iconst (v := nI 4) dX0_gainsOfFeud_5 (by decide) ?_
          refine r_icmp_ge (tgt := 168) dX0_gainsOfFeud_6 (by decide) (fun hz => absurd hz (show ¬ _ from (by rw [nI_leI (by omega) (by omega)]; omega))) (fun _ => ?_)
          refine r_iload dX0_gainsOfFeud_9 rfl ?_
          refine r_iconst (v := nI 1) dX0_gainsOfFeud_11 (by decide) ?_
          refine r_ishr dX0_gainsOfFeud_12 ?_
          refine r_iload_n dX0_gainsOfFeud_13 rfl ?_
          refine r_ishl dX0_gainsOfFeud_14 ?_
          refine r_iload dX0_gainsOfFeud_15 rfl ?_
          refine r_iconst (v := nI 1) dX0_gainsOfFeud_17 (by decide) ?_
          refine r_iand dX0_gainsOfFeud_18 ?_
          refine r_iload dX0_gainsOfFeud_19 rfl ?_
          refine r_ishl dX0_gainsOfFeud_21 ?_
          refine r_ior dX0_gainsOfFeud_22 ?_
          refine r_istore dX0_gainsOfFeud_23 (by decide) ?_
          refine r_aload_n dX0_gainsOfFeud_25 rfl ?_
          refine r_getR dX0_gainsOfFeud_26 fl_X0_12 rfl a0 a4 ?_
          refine r_aload_n dX0_gainsOfFeud_29 rfl ?_
          refine r_aload_n dX0_gainsOfFeud_30 rfl ?_
          refine r_aload_n dX0_gainsOfFeud_31 rfl ?_
          refine r_aload_n dX0_gainsOfFeud_32 rfl ?_
          refine r_virtE (c_X7_speaking b f hS hL) lk_X0_32 mc_X7_speaking dX0_gainsOfFeud_33 hS.1 (by decide) rfl rfl (Nat.le_of_ble_eq_true rfl) ?_
          rw [sp_c hSt hLf]
          refine r_iload dX0_gainsOfFeud_36 rfl ?_
          refine r_iconst (v := (-1)) dX0_gainsOfFeud_38 (by decide) ?_
          refine r_ixor dX0_gainsOfFeud_39 ?_
          refine r_iand dX0_gainsOfFeud_40 ?_
          refine r_iconst (v := nI 1) dX0_gainsOfFeud_41 (by decide) ?_
          refine r_virtV (c_setUpN (o + 48) b f H M e.2.2.2.2.length (nI (spB H cs e) &&& (hidI h1 h2 k ^^^ (-1))) (nI 1) (lkO cs H) cs un (LtO e.2.2.2.2) (I (f + 1)) (I (f + 2)) hS hL a1 (by omega) (by omega) (by omega) hH8 (hC0.clz hz)) lk_X0_38 mc_X6_setUp dX0_gainsOfFeud_42 a1.1 (by decide) rfl rfl (Nat.le_of_ble_eq_true rfl) ?_
          refine r_aload_n dX0_gainsOfFeud_45 rfl ?_
          refine r_getR dX0_gainsOfFeud_46 fl_X0_12 rfl a0 (show suP P (o + 48) b f (o + 47) 0 = some (o + 48) from by unfold suP; rw [am_up_n _ _ (by omega)]; exact a4) ?_
          refine r_virt (kc2 := 0) (ks2 := 0) (c_seekAllN (o + 48) b f H M e.2.2.2.2.length (nI (spB H cs e) &&& (hidI h1 h2 k ^^^ (-1))) (nI 1) (lkO cs H) cs un (LtO e.2.2.2.2) (I (f + 1)) (I (f + 2)) (fdR H M un cs e h1 h2 k) hS hL a1 (by omega) (by omega) (by omega) hH8 (hC0.clz hz) hM20.2 (sub_sp hSt hLf) (zR_c hH8 hM20.2 hLf)) lk_X0_66 mc_X6_seekAll dX0_gainsOfFeud_49 a1.1 (by decide) rfl rfl (Nat.le_of_ble_eq_true rfl) (by decide) (by decide) (fun _ _ _ _ _ _ h => nomatch h.1) ?_
          rintro v1 n1 kd1 I1 J1 P1 ⟨h00, rfl, rfl, hqf, hsp1, hf9, hf10, hf5, hJ4⟩
          cases h00
          simp only [Option.toList, List.nil_append, List.cons_append]
          have hC1 := hC0.qf (Or.inl rfl) hqf
          have hB1 := hB.qf (x := b) (by omega) hqf
          obtain ⟨c0, c1, c2, c3, c4, c5, c6⟩ : kA kd1 P1 (o + 47) := hC1.1.2.2.2.1.2.1
          rw [skA_t hg]
          refine r_bipush (v := (-2)) dX0_gainsOfFeud_52 (by decide) ?_
          refine r_icmp_ne (tgt := 59) dX0_gainsOfFeud_54 (by decide) (fun _ => ?_) (fun hz => absurd hz (show ¬ _ from (nI_m2 (by omega))))
          refine r_aload_n dX0_gainsOfFeud_59 rfl ?_
          refine r_getR dX0_gainsOfFeud_60 fl_X0_12 rfl c0 c4 ?_
          refine r_getR dX0_gainsOfFeud_63 fl_X0_70 rfl c1.1 c1.2.2.2.2.2.2.2.2.2.2 ?_
          refine r_iload_n dX0_gainsOfFeud_66 rfl ?_
          refine r_iald dX0_gainsOfFeud_67 c1.2.2.2.2.2.1 (nI_in8 8 (by omega) (by decide)) (nI_clamp (by omega)) ?_
          rw [show I1 (o + 47 + 1 + 5) h1 = nI (mayN (fdR H M un cs e h1 h2 k).2.1 h1) from by rw [show o + 47 + 1 + 5 = o + 48 + 5 by omega, hf5]; exact SR_may hM20.2 ha (if_pos (by omega)) _ hrg]
          refine r_statE (c_J6_bitCount_0f7a4 (nI (mayN (fdR H M un cs e h1 h2 k).2.1 h1))) lk_X0_46 mc_J6_bitCount_0f7a4 dX0_gainsOfFeud_68 (by decide) rfl rfl (Nat.le_of_ble_eq_true rfl) ?_
          rw [bc_21 (mayN_lt hrg hM20.2 ha)]
          refine r_iconst (v := nI 1) dX0_gainsOfFeud_71 (by decide) ?_
          refine r_icmp_ne (tgt := 79) dX0_gainsOfFeud_72 (by decide) (fun hz => absurd (show _ from (by rw [hA1])) hz) (fun _ => ?_)
          refine r_iconst (v := nI 1) dX0_gainsOfFeud_75 (by decide) ?_
          refine r_goto (tgt := 80) dX0_gainsOfFeud_76 (by decide) ?_
          refine r_istore dX0_gainsOfFeud_80 (by decide) ?_
          refine r_aload_n dX0_gainsOfFeud_82 rfl ?_
          refine r_getR dX0_gainsOfFeud_83 fl_X0_12 rfl c0 c4 ?_
          refine r_getR dX0_gainsOfFeud_86 fl_X0_70 rfl c1.1 c1.2.2.2.2.2.2.2.2.2.2 ?_
          refine r_iload dX0_gainsOfFeud_89 rfl ?_
          refine r_iald dX0_gainsOfFeud_91 c1.2.2.2.2.2.1 (nI_in8 8 (by omega) (by decide)) (nI_clamp (by omega)) ?_
          rw [show I1 (o + 47 + 1 + 5) h2 = nI (mayN (fdR H M un cs e h1 h2 k).2.1 h2) from by rw [show o + 47 + 1 + 5 = o + 48 + 5 by omega, hf5]; exact SR_may hM20.2 hb (if_pos (by omega)) _ hrg]
          refine r_statE (c_J6_bitCount_0f7a4 (nI (mayN (fdR H M un cs e h1 h2 k).2.1 h2))) lk_X0_46 mc_J6_bitCount_0f7a4 dX0_gainsOfFeud_92 (by decide) rfl rfl (Nat.le_of_ble_eq_true rfl) ?_
          rw [bc_21 (mayN_lt hrg hM20.2 hb)]
          refine r_iconst (v := nI 1) dX0_gainsOfFeud_95 (by decide) ?_
          refine r_icmp_ne (tgt := 103) dX0_gainsOfFeud_96 (by decide) (fun _ => ?_) (fun hz => absurd hz (show ¬ _ from (by have := pcF_le (nI (mayN (fdR H M un cs e h1 h2 k).2.1 h2)) 21; rw [nI_eq (by omega) (by decide)]; exact hB9)))
          refine r_iconst (v := nI 0) dX0_gainsOfFeud_103 (by decide) ?_
          refine r_istore dX0_gainsOfFeud_104 (by decide) ?_
          refine r_aload_n dX0_gainsOfFeud_106 rfl ?_
          refine r_getR dX0_gainsOfFeud_107 fl_X0_18 rfl c0 c5 ?_
          refine r_iload dX0_gainsOfFeud_110 rfl ?_
          refine r_iload dX0_gainsOfFeud_112 rfl ?_
          refine r_if_eq (tgt := 121) dX0_gainsOfFeud_114 (by decide) (fun hz => absurd hz (show ¬ _ from (by decide))) (fun _ => ?_)
          refine r_iconst (v := nI 2) dX0_gainsOfFeud_117 (by decide) ?_
          refine r_goto (tgt := 122) dX0_gainsOfFeud_118 (by decide) ?_
          refine r_iload dX0_gainsOfFeud_122 rfl ?_
          refine r_if_eq (tgt := 131) dX0_gainsOfFeud_124 (by decide) (fun _ => ?_) (fun hz => absurd (show _ from rfl) hz)
          refine r_iconst (v := nI 1) dX0_gainsOfFeud_131 (by decide) ?_
          refine r_iadd dX0_gainsOfFeud_132 ?_
          rw [nI_add]
          refine r_iast dX0_gainsOfFeud_133 c2 (nI_in8 4 (by omega) (by decide)) (nI_clamp (by omega)) ?_
          refine r_aload_n dX0_gainsOfFeud_134 rfl ?_
          refine r_getR dX0_gainsOfFeud_135 fl_X0_22 rfl c0 c6 ?_
          refine r_iload dX0_gainsOfFeud_138 rfl ?_
          refine r_iload dX0_gainsOfFeud_140 rfl ?_
          refine r_if_eq (tgt := 149) dX0_gainsOfFeud_142 (by decide) (fun _ => ?_) (fun hz => absurd (show _ from rfl) hz)
          refine r_iconst (v := nI 0) dX0_gainsOfFeud_149 (by decide) ?_
          refine r_iload dX0_gainsOfFeud_150 rfl ?_
          refine r_if_eq (tgt := 159) dX0_gainsOfFeud_152 (by decide) (fun hz => absurd hz (show ¬ _ from (by decide))) (fun _ => ?_)
          refine r_iconst (v := nI 0) dX0_gainsOfFeud_155 (by decide) ?_
          refine r_goto (tgt := 160) dX0_gainsOfFeud_156 (by decide) ?_
          refine r_iadd dX0_gainsOfFeud_160 ?_
          rw [nI_add]
          refine r_iast dX0_gainsOfFeud_161 c3 (nI_in8 4 (by omega) (by decide)) (nI_clamp (by omega)) ?_
          refine r_iinc (v := nI (k + 1)) dX0_gainsOfFeud_162 rfl (nI_inc k) ?_
          refine r_goto (tgt := 3) dX0_gainsOfFeud_165 (by decide) ?_
          have hv1 : g1N H M un cs e h1 h2 k = 3 := by unfold g1N gnN; rw [hAo, hBo]; rfl
          have hv2 : g2N H M un cs e h1 h2 k = 0 := by unfold g2N gnN; rw [hAo, hBo]; rfl
          refine RuZ.mono (w_gains o b s f l h1 h2 ha hb c (k + 1) _ _ _ (va_up (va_up I1 (o + 47 + 7) _) (o + 47 + 8) _) J1 P1 (by omega) ((hC1.up (by omega)).up (by omega)) hz ((hB1.up (by omega)).up (by omega)) (fun j hj => ?_)) (fun y n' kd' I' J' P' q => ?_)
          · by_cases jk : j = k
            · rw [jk, hv1, hv2, am_up_s]
              simp (disch := omega) only [am_up_s, am_up_n]
              first | exact ⟨rfl, rfl⟩ | exact ⟨trivial, trivial⟩
            · have hj2 := hro j (by omega)
              simp (disch := omega) only [am_up_s, am_up_n]
              rw [hqf.1 (o + 47 + 7) (by omega) (by omega), hqf.1 (o + 47 + 8) (by omega) (by omega)]
              exact hj2
          · have hx : fdA H M un cs e h1 h2 (c + 1) k = fdA H M un cs e h1 h2 c (k + 1) := by show (gdR (fdR H M un cs e h1 h2 k) && _) = _; rw [hg]; rfl
            rw [hx]
            exact q
      · have hAo : oneN (fdR H M un cs e h1 h2 k).2.1 h1 = false := decide_eq_false hA1
        by_cases hB9 : pcF (nI (mayN (fdR H M un cs e h1 h2 k).2.1 h2)) 21 = 1
        · have hBo : oneN (fdR H M un cs e h1 h2 k).2.1 h2 = true := decide_eq_true hB9
          refine r_iload dX0_gainsOfFeud_3 rfl ?_
          refine r_iconst (v := nI 4) dX0_gainsOfFeud_5 (by decide) ?_
          refine r_icmp_ge (tgt := 168) dX0_gainsOfFeud_6 (by decide) (fun hz => absurd hz (show ¬ _ from (by rw [nI_leI (by omega) (by omega)]; omega))) (fun _ => ?_)
          refine r_iload dX0_gainsOfFeud_9 rfl ?_
          refine r_iconst (v := nI 1) dX0_gainsOfFeud_11 (by decide) ?_
          refine r_ishr dX0_gainsOfFeud_12 ?_
          refine r_iload_n dX0_gainsOfFeud_13 rfl ?_
          refine r_ishl dX0_gainsOfFeud_14 ?_
          refine r_iload dX0_gainsOfFeud_15 rfl ?_
          refine r_iconst (v := nI 1) dX0_gainsOfFeud_17 (by decide) ?_
          refine r_iand dX0_gainsOfFeud_18 ?_
          refine r_iload dX0_gainsOfFeud_19 rfl ?_
          refine r_ishl dX0_gainsOfFeud_21 ?_
          refine r_ior dX0_gainsOfFeud_22 ?_
          refine r_istore dX0_gainsOfFeud_23 (by decide) ?_
          refine r_aload_n dX0_gainsOfFeud_25 rfl ?_
          refine r_getR dX0_gainsOfFeud_26 fl_X0_12 rfl a0 a4 ?_
          refine r_aload_n dX0_gainsOfFeud_29 rfl ?_
          refine r_aload_n dX0_gainsOfFeud_30 rfl ?_
          refine r_aload_n dX0_gainsOfFeud_31 rfl ?_
          refine r_aload_n dX0_gainsOfFeud_32 rfl ?_
          refine r_virtE (c_X7_speaking b f hS hL) lk_X0_32 mc_X7_speaking dX0_gainsOfFeud_33 hS.1 (by decide) rfl rfl (Nat.le_of_ble_eq_true rfl) ?_
          rw [sp_c hSt hLf]
          refine r_iload dX0_gainsOfFeud_36 rfl ?_
          refine r_iconst (v := (-1)) dX0_gainsOfFeud_38 (by decide) ?_
          refine r_ixor dX0_gainsOfFeud_39 ?_
          refine r_iand dX0_gainsOfFeud_40 ?_
          refine r_iconst (v := nI 1) dX0_gainsOfFeud_41 (by decide) ?_
          refine r_virtV (c_setUpN (o + 48) b f H M e.2.2.2.2.length (nI (spB H cs e) &&& (hidI h1 h2 k ^^^ (-1))) (nI 1) (lkO cs H) cs un (LtO e.2.2.2.2) (I (f + 1)) (I (f + 2)) hS hL a1 (by omega) (by omega) (by omega) hH8 (hC0.clz hz)) lk_X0_38 mc_X6_setUp dX0_gainsOfFeud_42 a1.1 (by decide) rfl rfl (Nat.le_of_ble_eq_true rfl) ?_
          refine r_aload_n dX0_gainsOfFeud_45 rfl ?_
          refine r_getR dX0_gainsOfFeud_46 fl_X0_12 rfl a0 (show suP P (o + 48) b f (o + 47) 0 = some (o + 48) from by unfold suP; rw [am_up_n _ _ (by omega)]; exact a4) ?_
          refine r_virt (kc2 := 0) (ks2 := 0) (c_seekAllN (o + 48) b f H M e.2.2.2.2.length (nI (spB H cs e) &&& (hidI h1 h2 k ^^^ (-1))) (nI 1) (lkO cs H) cs un (LtO e.2.2.2.2) (I (f + 1)) (I (f + 2)) (fdR H M un cs e h1 h2 k) hS hL a1 (by omega) (by omega) (by omega) hH8 (hC0.clz hz) hM20.2 (sub_sp hSt hLf) (zR_c hH8 hM20.2 hLf)) lk_X0_66 mc_X6_seekAll dX0_gainsOfFeud_49 a1.1 (by decide) rfl rfl (Nat.le_of_ble_eq_true rfl) (by decide) (by decide) (fun _ _ _ _ _ _ h => nomatch h.1) ?_
          rintro v1 n1 kd1 I1 J1 P1 ⟨h00, rfl, rfl, hqf, hsp1, hf9, hf10, hf5, hJ4⟩
          cases h00
          simp only [Option.toList, List.nil_append, List.cons_append]
          have hC1 := hC0.qf (Or.inl rfl) hqf
          have hB1 := hB.qf (x := b) (by omega) hqf
          obtain ⟨c0, c1, c2, c3, c4, c5, c6⟩ : kA kd1 P1 (o + 47) := hC1.1.2.2.2.1.2.1
          rw [skA_t hg]
          refine r_bipush (v := (-2)) dX0_gainsOfFeud_52 (by decide) ?_
          refine r_icmp_ne (tgt := 59) dX0_gainsOfFeud_54 (by decide) (fun _ => ?_) (fun hz => absurd hz (show ¬ _ from (nI_m2 (by omega))))
          refine r_aload_n dX0_gainsOfFeud_59 rfl ?_
          refine r_getR dX0_gainsOfFeud_60 fl_X0_12 rfl c0 c4 ?_
          refine r_getR dX0_gainsOfFeud_63 fl_X0_70 rfl c1.1 c1.2.2.2.2.2.2.2.2.2.2 ?_
          refine r_iload_n dX0_gainsOfFeud_66 rfl ?_
          refine r_iald dX0_gainsOfFeud_67 c1.2.2.2.2.2.1 (nI_in8 8 (by omega) (by decide)) (nI_clamp (by omega)) ?_
          rw [show I1 (o + 47 + 1 + 5) h1 = nI (mayN (fdR H M un cs e h1 h2 k).2.1 h1) from by rw [show o + 47 + 1 + 5 = o + 48 + 5 by omega, hf5]; exact SR_may hM20.2 ha (if_pos (by omega)) _ hrg]
          refine r_statE (c_J6_bitCount_0f7a4 (nI (mayN (fdR H M un cs e h1 h2 k).2.1 h1))) lk_X0_46 mc_J6_bitCount_0f7a4 dX0_gainsOfFeud_68 (by decide) rfl rfl (Nat.le_of_ble_eq_true rfl) ?_
          rw [bc_21 (mayN_lt hrg hM20.2 ha)]
          refine r_iconst (v := nI 1) dX0_gainsOfFeud_71 (by decide) ?_
          refine r_icmp_ne (tgt := 79) dX0_gainsOfFeud_72 (by decide) (fun _ => ?_) (fun hz => absurd hz (show ¬ _ from (by have := pcF_le (nI (mayN (fdR H M un cs e h1 h2 k).2.1 h1)) 21; rw [nI_eq (by omega) (by decide)]; exact hA1)))
          refine r_iconst (v := nI 0) dX0_gainsOfFeud_79 (by decide) ?_
          refine r_istore dX0_gainsOfFeud_80 (by decide) ?_
          refine r_aload_n dX0_gainsOfFeud_82 rfl ?_
          refine r_getR dX0_gainsOfFeud_83 fl_X0_12 rfl c0 c4 ?_
          refine r_getR dX0_gainsOfFeud_86 fl_X0_70 rfl c1.1 c1.2.2.2.2.2.2.2.2.2.2 ?_
          refine r_iload dX0_gainsOfFeud_89 rfl ?_
          refine r_iald dX0_gainsOfFeud_91 c1.2.2.2.2.2.1 (nI_in8 8 (by omega) (by decide)) (nI_clamp (by omega)) ?_
          rw [show I1 (o + 47 + 1 + 5) h2 = nI (mayN (fdR H M un cs e h1 h2 k).2.1 h2) from by rw [show o + 47 + 1 + 5 = o + 48 + 5 by omega, hf5]; exact SR_may hM20.2 hb (if_pos (by omega)) _ hrg]
          refine r_statE (c_J6_bitCount_0f7a4 (nI (mayN (fdR H M un cs e h1 h2 k).2.1 h2))) lk_X0_46 mc_J6_bitCount_0f7a4 dX0_gainsOfFeud_92 (by decide) rfl rfl (Nat.le_of_ble_eq_true rfl) ?_
          rw [bc_21 (mayN_lt hrg hM20.2 hb)]
          refine r_iconst (v := nI 1) dX0_gainsOfFeud_95 (by decide) ?_
          refine r_icmp_ne (tgt := 103) dX0_gainsOfFeud_96 (by decide) (fun hz => absurd (show _ from (by rw [hB9])) hz) (fun _ => ?_)
          refine r_iconst (v := nI 1) dX0_gainsOfFeud_99 (by decide) ?_
          refine r_goto (tgt := 104) dX0_gainsOfFeud_100 (by decide) ?_
          refine r_istore dX0_gainsOfFeud_104 (by decide) ?_
          refine r_aload_n dX0_gainsOfFeud_106 rfl ?_
          refine r_getR dX0_gainsOfFeud_107 fl_X0_18 rfl c0 c5 ?_
          refine r_iload dX0_gainsOfFeud_110 rfl ?_
          refine r_iload dX0_gainsOfFeud_112 rfl ?_
          refine r_if_eq (tgt := 121) dX0_gainsOfFeud_114 (by decide) (fun _ => ?_) (fun hz => absurd (show _ from rfl) hz)
          refine r_iconst (v := nI 0) dX0_gainsOfFeud_121 (by decide) ?_
          refine r_iload dX0_gainsOfFeud_122 rfl ?_
          refine r_if_eq (tgt := 131) dX0_gainsOfFeud_124 (by decide) (fun hz => absurd hz (show ¬ _ from (by decide))) (fun _ => ?_)
          refine r_iconst (v := nI 0) dX0_gainsOfFeud_127 (by decide) ?_
          refine r_goto (tgt := 132) dX0_gainsOfFeud_128 (by decide) ?_
          refine r_iadd dX0_gainsOfFeud_132 ?_
          rw [nI_add]
          refine r_iast dX0_gainsOfFeud_133 c2 (nI_in8 4 (by omega) (by decide)) (nI_clamp (by omega)) ?_
          refine r_aload_n dX0_gainsOfFeud_134 rfl ?_
          refine r_getR dX0_gainsOfFeud_135 fl_X0_22 rfl c0 c6 ?_
          refine r_iload dX0_gainsOfFeud_138 rfl ?_
          refine r_iload dX0_gainsOfFeud_140 rfl ?_
          refine r_if_eq (tgt := 149) dX0_gainsOfFeud_142 (by decide) (fun hz => absurd hz (show ¬ _ from (by decide))) (fun _ => ?_)
          refine r_iconst (v := nI 2) dX0_gainsOfFeud_145 (by decide) ?_
          refine r_goto (tgt := 150) dX0_gainsOfFeud_146 (by decide) ?_
          refine r_iload dX0_gainsOfFeud_150 rfl ?_
          refine r_if_eq (tgt := 159) dX0_gainsOfFeud_152 (by decide) (fun _ => ?_) (fun hz => absurd (show _ from rfl) hz)
          refine r_iconst (v := nI 1) dX0_gainsOfFeud_159 (by decide) ?_
          refine r_iadd dX0_gainsOfFeud_160 ?_
          rw [nI_add]
          refine r_iast dX0_gainsOfFeud_161 c3 (nI_in8 4 (by omega) (by decide)) (nI_clamp (by omega)) ?_
          refine r_iinc (v := nI (k + 1)) dX0_gainsOfFeud_162 rfl (nI_inc k) ?_
          refine r_goto (tgt := 3) dX0_gainsOfFeud_165 (by decide) ?_
          have hv1 : g1N H M un cs e h1 h2 k = 0 := by unfold g1N gnN; rw [hAo, hBo]; rfl
          have hv2 : g2N H M un cs e h1 h2 k = 3 := by unfold g2N gnN; rw [hAo, hBo]; rfl
          refine RuZ.mono (w_gains o b s f l h1 h2 ha hb c (k + 1) _ _ _ (va_up (va_up I1 (o + 47 + 7) _) (o + 47 + 8) _) J1 P1 (by omega) ((hC1.up (by omega)).up (by omega)) hz ((hB1.up (by omega)).up (by omega)) (fun j hj => ?_)) (fun y n' kd' I' J' P' q => ?_)
          · by_cases jk : j = k
            · rw [jk, hv1, hv2, am_up_s]
              simp (disch := omega) only [am_up_s, am_up_n]
              first | exact ⟨rfl, rfl⟩ | exact ⟨trivial, trivial⟩
            · have hj2 := hro j (by omega)
              simp (disch := omega) only [am_up_s, am_up_n]
              rw [hqf.1 (o + 47 + 7) (by omega) (by omega), hqf.1 (o + 47 + 8) (by omega) (by omega)]
              exact hj2
          · have hx : fdA H M un cs e h1 h2 (c + 1) k = fdA H M un cs e h1 h2 c (k + 1) := by show (gdR (fdR H M un cs e h1 h2 k) && _) = _; rw [hg]; rfl
            rw [hx]
            exact q
        · have hBo : oneN (fdR H M un cs e h1 h2 k).2.1 h2 = false := decide_eq_false hB9
          refine r_iload dX0_gainsOfFeud_3 rfl ?_
          refine r_iconst (v := nI 4) dX0_gainsOfFeud_5 (by decide) ?_
          refine r_icmp_ge (tgt := 168) dX0_gainsOfFeud_6 (by decide) (fun hz => absurd hz (show ¬ _ from (by rw [nI_leI (by omega) (by omega)]; omega))) (fun _ => ?_)
          refine r_iload dX0_gainsOfFeud_9 rfl ?_
          refine r_iconst (v := nI 1) dX0_gainsOfFeud_11 (by decide) ?_
          refine r_ishr dX0_gainsOfFeud_12 ?_
          refine r_iload_n dX0_gainsOfFeud_13 rfl ?_
          refine r_ishl dX0_gainsOfFeud_14 ?_
          refine r_iload dX0_gainsOfFeud_15 rfl ?_
          refine r_iconst (v := nI 1) dX0_gainsOfFeud_17 (by decide) ?_
          refine r_iand dX0_gainsOfFeud_18 ?_
          refine r_iload dX0_gainsOfFeud_19 rfl ?_
          refine r_ishl dX0_gainsOfFeud_21 ?_
          refine r_ior dX0_gainsOfFeud_22 ?_
          refine r_istore dX0_gainsOfFeud_23 (by decide) ?_
          refine r_aload_n dX0_gainsOfFeud_25 rfl ?_
          refine r_getR dX0_gainsOfFeud_26 fl_X0_12 rfl a0 a4 ?_
          refine r_aload_n dX0_gainsOfFeud_29 rfl ?_
          refine r_aload_n dX0_gainsOfFeud_30 rfl ?_
          refine r_aload_n dX0_gainsOfFeud_31 rfl ?_
          refine r_aload_n dX0_gainsOfFeud_32 rfl ?_
          refine r_virtE (c_X7_speaking b f hS hL) lk_X0_32 mc_X7_speaking dX0_gainsOfFeud_33 hS.1 (by decide) rfl rfl (Nat.le_of_ble_eq_true rfl) ?_
          rw [sp_c hSt hLf]
          refine r_iload dX0_gainsOfFeud_36 rfl ?_
          refine r_iconst (v := (-1)) dX0_gainsOfFeud_38 (by decide) ?_
          refine r_ixor dX0_gainsOfFeud_39 ?_
          refine r_iand dX0_gainsOfFeud_40 ?_
          refine r_iconst (v := nI 1) dX0_gainsOfFeud_41 (by decide) ?_
          refine r_virtV (c_setUpN (o + 48) b f H M e.2.2.2.2.length (nI (spB H cs e) &&& (hidI h1 h2 k ^^^ (-1))) (nI 1) (lkO cs H) cs un (LtO e.2.2.2.2) (I (f + 1)) (I (f + 2)) hS hL a1 (by omega) (by omega) (by omega) hH8 (hC0.clz hz)) lk_X0_38 mc_X6_setUp dX0_gainsOfFeud_42 a1.1 (by decide) rfl rfl (Nat.le_of_ble_eq_true rfl) ?_
          refine r_aload_n dX0_gainsOfFeud_45 rfl ?_
          refine r_getR dX0_gainsOfFeud_46 fl_X0_12 rfl a0 (show suP P (o + 48) b f (o + 47) 0 = some (o + 48) from by unfold suP; rw [am_up_n _ _ (by omega)]; exact a4) ?_
          refine r_virt (kc2 := 0) (ks2 := 0) (c_seekAllN (o + 48) b f H M e.2.2.2.2.length (nI (spB H cs e) &&& (hidI h1 h2 k ^^^ (-1))) (nI 1) (lkO cs H) cs un (LtO e.2.2.2.2) (I (f + 1)) (I (f + 2)) (fdR H M un cs e h1 h2 k) hS hL a1 (by omega) (by omega) (by omega) hH8 (hC0.clz hz) hM20.2 (sub_sp hSt hLf) (zR_c hH8 hM20.2 hLf)) lk_X0_66 mc_X6_seekAll dX0_gainsOfFeud_49 a1.1 (by decide) rfl rfl (Nat.le_of_ble_eq_true rfl) (by decide) (by decide) (fun _ _ _ _ _ _ h => nomatch h.1) ?_
          rintro v1 n1 kd1 I1 J1 P1 ⟨h00, rfl, rfl, hqf, hsp1, hf9, hf10, hf5, hJ4⟩
          cases h00
          simp only [Option.toList, List.nil_append, List.cons_append]
          have hC1 := hC0.qf (Or.inl rfl) hqf
          have hB1 := hB.qf (x := b) (by omega) hqf
          obtain ⟨c0, c1, c2, c3, c4, c5, c6⟩ : kA kd1 P1 (o + 47) := hC1.1.2.2.2.1.2.1
          rw [skA_t hg]
          refine r_bipush (v := (-2)) dX0_gainsOfFeud_52 (by decide) ?_
          refine r_icmp_ne (tgt := 59) dX0_gainsOfFeud_54 (by decide) (fun _ => ?_) (fun hz => absurd hz (show ¬ _ from (nI_m2 (by omega))))
          refine r_aload_n dX0_gainsOfFeud_59 rfl ?_
          refine r_getR dX0_gainsOfFeud_60 fl_X0_12 rfl c0 c4 ?_
          refine r_getR dX0_gainsOfFeud_63 fl_X0_70 rfl c1.1 c1.2.2.2.2.2.2.2.2.2.2 ?_
          refine r_iload_n dX0_gainsOfFeud_66 rfl ?_
          refine r_iald dX0_gainsOfFeud_67 c1.2.2.2.2.2.1 (nI_in8 8 (by omega) (by decide)) (nI_clamp (by omega)) ?_
          rw [show I1 (o + 47 + 1 + 5) h1 = nI (mayN (fdR H M un cs e h1 h2 k).2.1 h1) from by rw [show o + 47 + 1 + 5 = o + 48 + 5 by omega, hf5]; exact SR_may hM20.2 ha (if_pos (by omega)) _ hrg]
          refine r_statE (c_J6_bitCount_0f7a4 (nI (mayN (fdR H M un cs e h1 h2 k).2.1 h1))) lk_X0_46 mc_J6_bitCount_0f7a4 dX0_gainsOfFeud_68 (by decide) rfl rfl (Nat.le_of_ble_eq_true rfl) ?_
          rw [bc_21 (mayN_lt hrg hM20.2 ha)]
          refine r_iconst (v := nI 1) dX0_gainsOfFeud_71 (by decide) ?_
          refine r_icmp_ne (tgt := 79) dX0_gainsOfFeud_72 (by decide) (fun _ => ?_) (fun hz => absurd hz (show ¬ _ from (by have := pcF_le (nI (mayN (fdR H M un cs e h1 h2 k).2.1 h1)) 21; rw [nI_eq (by omega) (by decide)]; exact hA1)))
          refine r_iconst (v := nI 0) dX0_gainsOfFeud_79 (by decide) ?_
          refine r_istore dX0_gainsOfFeud_80 (by decide) ?_
          refine r_aload_n dX0_gainsOfFeud_82 rfl ?_
          refine r_getR dX0_gainsOfFeud_83 fl_X0_12 rfl c0 c4 ?_
          refine r_getR dX0_gainsOfFeud_86 fl_X0_70 rfl c1.1 c1.2.2.2.2.2.2.2.2.2.2 ?_
          refine r_iload dX0_gainsOfFeud_89 rfl ?_
          refine r_iald dX0_gainsOfFeud_91 c1.2.2.2.2.2.1 (nI_in8 8 (by omega) (by decide)) (nI_clamp (by omega)) ?_
          rw [show I1 (o + 47 + 1 + 5) h2 = nI (mayN (fdR H M un cs e h1 h2 k).2.1 h2) from by rw [show o + 47 + 1 + 5 = o + 48 + 5 by omega, hf5]; exact SR_may hM20.2 hb (if_pos (by omega)) _ hrg]
          refine r_statE (c_J6_bitCount_0f7a4 (nI (mayN (fdR H M un cs e h1 h2 k).2.1 h2))) lk_X0_46 mc_J6_bitCount_0f7a4 dX0_gainsOfFeud_92 (by decide) rfl rfl (Nat.le_of_ble_eq_true rfl) ?_
          rw [bc_21 (mayN_lt hrg hM20.2 hb)]
          refine r_iconst (v := nI 1) dX0_gainsOfFeud_95 (by decide) ?_
          refine r_icmp_ne (tgt := 103) dX0_gainsOfFeud_96 (by decide) (fun _ => ?_) (fun hz => absurd hz (show ¬ _ from (by have := pcF_le (nI (mayN (fdR H M un cs e h1 h2 k).2.1 h2)) 21; rw [nI_eq (by omega) (by decide)]; exact hB9)))
          refine r_iconst (v := nI 0) dX0_gainsOfFeud_103 (by decide) ?_
          refine r_istore dX0_gainsOfFeud_104 (by decide) ?_
          refine r_aload_n dX0_gainsOfFeud_106 rfl ?_
          refine r_getR dX0_gainsOfFeud_107 fl_X0_18 rfl c0 c5 ?_
          refine r_iload dX0_gainsOfFeud_110 rfl ?_
          refine r_iload dX0_gainsOfFeud_112 rfl ?_
          refine r_if_eq (tgt := 121) dX0_gainsOfFeud_114 (by decide) (fun _ => ?_) (fun hz => absurd (show _ from rfl) hz)
          refine r_iconst (v := nI 0) dX0_gainsOfFeud_121 (by decide) ?_
          refine r_iload dX0_gainsOfFeud_122 rfl ?_
          refine r_if_eq (tgt := 131) dX0_gainsOfFeud_124 (by decide) (fun _ => ?_) (fun hz => absurd (show _ from rfl) hz)
          refine r_iconst (v := nI 1) dX0_gainsOfFeud_131 (by decide) ?_
          refine r_iadd dX0_gainsOfFeud_132 ?_
          rw [nI_add]
          refine r_iast dX0_gainsOfFeud_133 c2 (nI_in8 4 (by omega) (by decide)) (nI_clamp (by omega)) ?_
          refine r_aload_n dX0_gainsOfFeud_134 rfl ?_
          refine r_getR dX0_gainsOfFeud_135 fl_X0_22 rfl c0 c6 ?_
          refine r_iload dX0_gainsOfFeud_138 rfl ?_
          refine r_iload dX0_gainsOfFeud_140 rfl ?_
          refine r_if_eq (tgt := 149) dX0_gainsOfFeud_142 (by decide) (fun _ => ?_) (fun hz => absurd (show _ from rfl) hz)
          refine r_iconst (v := nI 0) dX0_gainsOfFeud_149 (by decide) ?_
          refine r_iload dX0_gainsOfFeud_150 rfl ?_
          refine r_if_eq (tgt := 159) dX0_gainsOfFeud_152 (by decide) (fun _ => ?_) (fun hz => absurd (show _ from rfl) hz)
          refine r_iconst (v := nI 1) dX0_gainsOfFeud_159 (by decide) ?_
          refine r_iadd dX0_gainsOfFeud_160 ?_
          rw [nI_add]
          refine r_iast dX0_gainsOfFeud_161 c3 (nI_in8 4 (by omega) (by decide)) (nI_clamp (by omega)) ?_
          refine r_iinc (v := nI (k + 1)) dX0_gainsOfFeud_162 rfl (nI_inc k) ?_
          refine r_goto (tgt := 3) dX0_gainsOfFeud_165 (by decide) ?_
          have hv1 : g1N H M un cs e h1 h2 k = 1 := by unfold g1N gnN; rw [hAo, hBo]; rfl
          have hv2 : g2N H M un cs e h1 h2 k = 1 := by unfold g2N gnN; rw [hAo, hBo]; rfl
          refine RuZ.mono (w_gains o b s f l h1 h2 ha hb c (k + 1) _ _ _ (va_up (va_up I1 (o + 47 + 7) _) (o + 47 + 8) _) J1 P1 (by omega) ((hC1.up (by omega)).up (by omega)) hz ((hB1.up (by omega)).up (by omega)) (fun j hj => ?_)) (fun y n' kd' I' J' P' q => ?_)
          · by_cases jk : j = k
            · rw [jk, hv1, hv2, am_up_s]
              simp (disch := omega) only [am_up_s, am_up_n]
              first | exact ⟨rfl, rfl⟩ | exact ⟨trivial, trivial⟩
            · have hj2 := hro j (by omega)
              simp (disch := omega) only [am_up_s, am_up_n]
              rw [hqf.1 (o + 47 + 7) (by omega) (by omega), hqf.1 (o + 47 + 8) (by omega) (by omega)]
              exact hj2
          · have hx : fdA H M un cs e h1 h2 (c + 1) k = fdA H M un cs e h1 h2 c (k + 1) := by show (gdR (fdR H M un cs e h1 h2 k) && _) = _; rw [hg]; rfl
            rw [hx]
            exact q

set_option maxHeartbeats 4000000 in
set_option maxRecDepth 100000 in
theorem c_gains (o b s f l h1 h2 : Nat) {t : Nat} {T : Nat → Nat} {fp : Int32} {rr : Nat → Int32} {H M : Nat} {un : Bool} {cs : Nat → List Nat} {tx : Nat → List Int32} {e : Lf} {im : Option Lf} {wk : Option (List Nat)} {n : Nat} {kd : mK} {I : mI} {J : mJ} {P : mP} (hC : CR o b s f l n kd I J P t T fp rr H M un cs tx e im wk) (hz : okZ t T H M cs e) (ha : h1 < H) (hb : h2 < H) : Ct yX0_gainsOfFeud cX0_gainsOfFeud 9 (some .boolean) 8 0 0 [.ref (o + 47), .ref b, .ref f, .int (nI h1), .int (nI h2)] n kd I J P (fun y n' kd' I' J' P' => y = .inl (some (.int (bz (fdA H M un cs e h1 h2 4 0)))) ∧ n' = n ∧ kd' = kd ∧ Bs o I I' J J' P P' ∧ CR o b s f l n kd I' J' P' t T fp rr H M un cs tx e im wk ∧ (fdA H M un cs e h1 h2 4 0 = true → ∀ j, j < 4 → I' (o + 47 + 7) j = nI (g1N H M un cs e h1 h2 j) ∧ I' (o + 47 + 8) j = nI (g2N H M un cs e h1 h2 j))) := by
  refine ct_of 4 (by decide +kernel) (Nat.le_of_ble_eq_true rfl) rfl ?_
  refine r_iconst (v := nI 0) dX0_gainsOfFeud_0 (by decide) ?_
  refine r_istore dX0_gainsOfFeud_1 (by decide) ?_
  exact w_gains o b s f l h1 h2 ha hb 4 0 _ _ _ I J P rfl hC hz Bs.rf (fun j hj => absurd hj (by omega))

theorem dX0_rests_0 : decode cX0_rests 0 = .ok (.aload_n 0, 1) := by decide +kernel
theorem dX0_rests_1 : decode cX0_rests 1 = .ok (.getfield 18, 3) := by decide +kernel
theorem dX0_rests_4 : decode cX0_rests 4 = .ok (.iload_n 1, 1) := by decide +kernel
theorem dX0_rests_5 : decode cX0_rests 5 = .ok (.iaload, 1) := by decide +kernel
theorem dX0_rests_6 : decode cX0_rests 6 = .ok (.aload_n 0, 1) := by decide +kernel
theorem dX0_rests_7 : decode cX0_rests 7 = .ok (.getfield 18, 3) := by decide +kernel
theorem dX0_rests_10 : decode cX0_rests 10 = .ok (.iload_n 1, 1) := by decide +kernel
theorem dX0_rests_11 : decode cX0_rests 11 = .ok (.iconst 2, 1) := by decide +kernel
theorem dX0_rests_12 : decode cX0_rests 12 = .ok (.ixor, 1) := by decide +kernel
theorem dX0_rests_13 : decode cX0_rests 13 = .ok (.iaload, 1) := by decide +kernel
theorem dX0_rests_14 : decode cX0_rests 14 = .ok (.if_icmp .lt 24, 3) := by decide +kernel
theorem dX0_rests_17 : decode cX0_rests 17 = .ok (.aload_n 0, 1) := by decide +kernel
theorem dX0_rests_18 : decode cX0_rests 18 = .ok (.getfield 22, 3) := by decide +kernel
theorem dX0_rests_21 : decode cX0_rests 21 = .ok (.iload_n 1, 1) := by decide +kernel
theorem dX0_rests_22 : decode cX0_rests 22 = .ok (.iaload, 1) := by decide +kernel
theorem dX0_rests_23 : decode cX0_rests 23 = .ok (.aload_n 0, 1) := by decide +kernel
theorem dX0_rests_24 : decode cX0_rests 24 = .ok (.getfield 22, 3) := by decide +kernel
theorem dX0_rests_27 : decode cX0_rests 27 = .ok (.iload_n 1, 1) := by decide +kernel
theorem dX0_rests_28 : decode cX0_rests 28 = .ok (.iconst 1, 1) := by decide +kernel
theorem dX0_rests_29 : decode cX0_rests 29 = .ok (.ixor, 1) := by decide +kernel
theorem dX0_rests_30 : decode cX0_rests 30 = .ok (.iaload, 1) := by decide +kernel
theorem dX0_rests_31 : decode cX0_rests 31 = .ok (.if_icmp .lt 7, 3) := by decide +kernel
theorem dX0_rests_34 : decode cX0_rests 34 = .ok (.iconst 1, 1) := by decide +kernel
theorem dX0_rests_35 : decode cX0_rests 35 = .ok (.goto 4, 3) := by decide +kernel
theorem dX0_rests_38 : decode cX0_rests 38 = .ok (.iconst 0, 1) := by decide +kernel
theorem dX0_rests_39 : decode cX0_rests 39 = .ok (.ireturn, 1) := by decide +kernel

set_option maxHeartbeats 4000000 in
set_option maxRecDepth 100000 in
theorem c_X0_rests (a k : Nat) (g1 g2 : Nat → Nat) {n : Nat} {kd : mK} {I : mI} {J : mJ} {P : mP} (a0 : kd a = some (0, 0)) (a2 : kd (a + 7) = some (1, 4)) (a3 : kd (a + 8) = some (1, 4)) (a5 : P a 1 = some (a + 7)) (a6 : P a 2 = some (a + 8)) (hg1 : ∀ j, j < 4 → I (a + 7) j = nI (g1 j) ∧ g1 j < 2 ^ 31) (hg2 : ∀ j, j < 4 → I (a + 8) j = nI (g2 j) ∧ g2 j < 2 ^ 31) (hk : k < 4) : Ct yX0_rests cX0_rests 2 (some .boolean) 1 0 0 [.ref a, .int (nI k)] n kd I J P (am_is (some (.int (bz (rsB g1 g2 k)))) n kd I J P) := by
  have hx1 := xor_lt4 hk (show 1 < 4 by decide)
  have hx2 := xor_lt4 hk (show 2 < 4 by decide)
  refine ct_of 0 (by decide +kernel) (Nat.le_of_ble_eq_true rfl) rfl ?_
  by_cases c1 : g1 (k ^^^ 2) ≤ g1 k
  · by_cases c2 : g2 (k ^^^ 1) ≤ g2 k
    · skip
      refine r_aload_n dX0_rests_0 rfl ?_
      refine r_getR dX0_rests_1 fl_X0_18 rfl a0 a5 ?_
      refine r_iload_n dX0_rests_4 rfl ?_
      refine r_iald dX0_rests_5 a2 (nI_in8 4 (by omega) (by decide)) (nI_clamp (by omega)) ?_
      rw [(hg1 _ (by omega)).1]
      refine r_aload_n dX0_rests_6 rfl ?_
      refine r_getR dX0_rests_7 fl_X0_18 rfl a0 a5 ?_
      refine r_iload_n dX0_rests_10 rfl ?_
      refine r_iconst (v := nI 2) dX0_rests_11 (by decide) ?_
      refine r_ixor dX0_rests_12 ?_
      rw [xor_nI]
      refine r_iald dX0_rests_13 a2 (nI_in8 4 (by omega) (by decide)) (nI_clamp (by omega)) ?_
      rw [(hg1 _ (by omega)).1]
      refine r_icmp_lt (tgt := 38) dX0_rests_14 (by decide) (fun hz => absurd hz (show ¬ _ from (by rw [nI_ltI (hg1 _ (by omega)).2 (hg1 _ (by omega)).2]; omega))) (fun _ => ?_)
      refine r_aload_n dX0_rests_17 rfl ?_
      refine r_getR dX0_rests_18 fl_X0_22 rfl a0 a6 ?_
      refine r_iload_n dX0_rests_21 rfl ?_
      refine r_iald dX0_rests_22 a3 (nI_in8 4 (by omega) (by decide)) (nI_clamp (by omega)) ?_
      rw [(hg2 _ (by omega)).1]
      refine r_aload_n dX0_rests_23 rfl ?_
      refine r_getR dX0_rests_24 fl_X0_22 rfl a0 a6 ?_
      refine r_iload_n dX0_rests_27 rfl ?_
      refine r_iconst (v := nI 1) dX0_rests_28 (by decide) ?_
      refine r_ixor dX0_rests_29 ?_
      rw [xor_nI]
      refine r_iald dX0_rests_30 a3 (nI_in8 4 (by omega) (by decide)) (nI_clamp (by omega)) ?_
      rw [(hg2 _ (by omega)).1]
      refine r_icmp_lt (tgt := 38) dX0_rests_31 (by decide) (fun hz => absurd hz (show ¬ _ from (by rw [nI_ltI (hg2 _ (by omega)).2 (hg2 _ (by omega)).2]; omega))) (fun _ => ?_)
      refine r_iconst (v := nI 1) dX0_rests_34 (by decide) ?_
      refine r_goto (tgt := 39) dX0_rests_35 (by decide) ?_
      refine r_zret rfl dX0_rests_39 (by first | exact Or.inl rfl | exact Or.inr rfl | assumption) ?_
      rw [show rsB g1 g2 k = true from by unfold rsB; rw [decide_eq_true c1, decide_eq_true c2]; rfl]
      exact am_is.mk
    · skip
      refine r_aload_n dX0_rests_0 rfl ?_
      refine r_getR dX0_rests_1 fl_X0_18 rfl a0 a5 ?_
      refine r_iload_n dX0_rests_4 rfl ?_
      refine r_iald dX0_rests_5 a2 (nI_in8 4 (by omega) (by decide)) (nI_clamp (by omega)) ?_
      rw [(hg1 _ (by omega)).1]
      refine r_aload_n dX0_rests_6 rfl ?_
      refine r_getR dX0_rests_7 fl_X0_18 rfl a0 a5 ?_
      refine r_iload_n dX0_rests_10 rfl ?_
      refine r_iconst (v := nI 2) dX0_rests_11 (by decide) ?_
      refine r_ixor dX0_rests_12 ?_
      rw [xor_nI]
      refine r_iald dX0_rests_13 a2 (nI_in8 4 (by omega) (by decide)) (nI_clamp (by omega)) ?_
      rw [(hg1 _ (by omega)).1]
      refine r_icmp_lt (tgt := 38) dX0_rests_14 (by decide) (fun hz => absurd hz (show ¬ _ from (by rw [nI_ltI (hg1 _ (by omega)).2 (hg1 _ (by omega)).2]; omega))) (fun _ => ?_)
      refine r_aload_n dX0_rests_17 rfl ?_
      refine r_getR dX0_rests_18 fl_X0_22 rfl a0 a6 ?_
      refine r_iload_n dX0_rests_21 rfl ?_
      refine r_iald dX0_rests_22 a3 (nI_in8 4 (by omega) (by decide)) (nI_clamp (by omega)) ?_
      rw [(hg2 _ (by omega)).1]
      refine r_aload_n dX0_rests_23 rfl ?_
      refine r_getR dX0_rests_24 fl_X0_22 rfl a0 a6 ?_
      refine r_iload_n dX0_rests_27 rfl ?_
      refine r_iconst (v := nI 1) dX0_rests_28 (by decide) ?_
      refine r_ixor dX0_rests_29 ?_
      rw [xor_nI]
      refine r_iald dX0_rests_30 a3 (nI_in8 4 (by omega) (by decide)) (nI_clamp (by omega)) ?_
      rw [(hg2 _ (by omega)).1]
      refine r_icmp_lt (tgt := 38) dX0_rests_31 (by decide) (fun _ => ?_) (fun hz => absurd (show _ from (by rw [nI_ltI (hg2 _ (by omega)).2 (hg2 _ (by omega)).2]; omega)) hz)
      refine r_iconst (v := nI 0) dX0_rests_38 (by decide) ?_
      refine r_zret rfl dX0_rests_39 (by first | exact Or.inl rfl | exact Or.inr rfl | assumption) ?_
      rw [show rsB g1 g2 k = false from by unfold rsB; rw [decide_eq_false c2, Bool.and_false]]
      exact am_is.mk
  · skip
    refine r_aload_n dX0_rests_0 rfl ?_
    refine r_getR dX0_rests_1 fl_X0_18 rfl a0 a5 ?_
    refine r_iload_n dX0_rests_4 rfl ?_
    refine r_iald dX0_rests_5 a2 (nI_in8 4 (by omega) (by decide)) (nI_clamp (by omega)) ?_
    rw [(hg1 _ (by omega)).1]
    refine r_aload_n dX0_rests_6 rfl ?_
    refine r_getR dX0_rests_7 fl_X0_18 rfl a0 a5 ?_
    refine r_iload_n dX0_rests_10 rfl ?_
    refine r_iconst (v := nI 2) dX0_rests_11 (by decide) ?_
    refine r_ixor dX0_rests_12 ?_
    rw [xor_nI]
    refine r_iald dX0_rests_13 a2 (nI_in8 4 (by omega) (by decide)) (nI_clamp (by omega)) ?_
    rw [(hg1 _ (by omega)).1]
    refine r_icmp_lt (tgt := 38) dX0_rests_14 (by decide) (fun _ => ?_) (fun hz => absurd (show _ from (by rw [nI_ltI (hg1 _ (by omega)).2 (hg1 _ (by omega)).2]; omega)) hz)
    refine r_iconst (v := nI 0) dX0_rests_38 (by decide) ?_
    refine r_zret rfl dX0_rests_39 (by first | exact Or.inl rfl | exact Or.inr rfl | assumption) ?_
    rw [show rsB g1 g2 k = false from by unfold rsB; rw [decide_eq_false c1]; rfl]
    exact am_is.mk

theorem dX0_restingCouples_0 : decode cX0_restingCouples 0 = .ok (.iconst 0, 1) := by decide +kernel
theorem dX0_restingCouples_1 : decode cX0_restingCouples 1 = .ok (.istore_n 1, 1) := by decide +kernel
theorem dX0_restingCouples_2 : decode cX0_restingCouples 2 = .ok (.iconst 0, 1) := by decide +kernel
theorem dX0_restingCouples_3 : decode cX0_restingCouples 3 = .ok (.istore_n 2, 1) := by decide +kernel
theorem dX0_restingCouples_4 : decode cX0_restingCouples 4 = .ok (.iload_n 2, 1) := by decide +kernel
theorem dX0_restingCouples_5 : decode cX0_restingCouples 5 = .ok (.iconst 4, 1) := by decide +kernel
theorem dX0_restingCouples_6 : decode cX0_restingCouples 6 = .ok (.if_icmp .ge 20, 3) := by decide +kernel
theorem dX0_restingCouples_9 : decode cX0_restingCouples 9 = .ok (.aload_n 0, 1) := by decide +kernel
theorem dX0_restingCouples_10 : decode cX0_restingCouples 10 = .ok (.iload_n 2, 1) := by decide +kernel
theorem dX0_restingCouples_11 : decode cX0_restingCouples 11 = .ok (.invokevirtual 73, 3) := by decide +kernel
theorem dX0_restingCouples_14 : decode cX0_restingCouples 14 = .ok (.ifCond .eq 6, 3) := by decide +kernel
theorem dX0_restingCouples_17 : decode cX0_restingCouples 17 = .ok (.iinc 1 1, 3) := by decide +kernel
theorem dX0_restingCouples_20 : decode cX0_restingCouples 20 = .ok (.iinc 2 1, 3) := by decide +kernel
theorem dX0_restingCouples_23 : decode cX0_restingCouples 23 = .ok (.goto (-19), 3) := by decide +kernel
theorem dX0_restingCouples_26 : decode cX0_restingCouples 26 = .ok (.iload_n 1, 1) := by decide +kernel
theorem dX0_restingCouples_27 : decode cX0_restingCouples 27 = .ok (.ireturn, 1) := by decide +kernel

set_option maxHeartbeats 4000000 in
set_option maxRecDepth 100000 in
theorem w_resting (a : Nat) (g1 g2 : Nat → Nat) {n : Nat} {kd : mK} {I : mI} {J : mJ} {P : mP} (a0 : kd a = some (0, 0)) (a2 : kd (a + 7) = some (1, 4)) (a3 : kd (a + 8) = some (1, 4)) (a5 : P a 1 = some (a + 7)) (a6 : P a 2 = some (a + 8)) (hg1 : ∀ j, j < 4 → I (a + 7) j = nI (g1 j) ∧ g1 j < 2 ^ 31) (hg2 : ∀ j, j < 4 → I (a + 8) j = nI (g2 j) ∧ g2 j < 2 ^ 31) : ∀ (c k : Nat), k + c = 4 → Ru yX0_restingCouples.cls cX0_restingCouples 3 (some .int) yX0_restingCouples.name 2 (am_is (some (.int (nI (rsC g1 g2 4)))) n kd I J P) 0 0 4 [some (.ref a), some (.int (nI (rsC g1 g2 k))), some (.int (nI k))] [] n kd I J P
  | 0, k, hc => by
    rw [show k = 4 by omega]
    refine r_iload_n dX0_restingCouples_4 rfl ?_
    refine r_iconst (v := nI 4) dX0_restingCouples_5 (by decide) ?_
    refine r_icmp_ge (tgt := 26) dX0_restingCouples_6 (by decide) (fun _ => ?_) (fun hz => absurd (show _ from (by rw [nI_leI (by omega) (by omega)]; omega)) hz)
    refine r_iload_n dX0_restingCouples_26 rfl ?_
    refine r_iret rfl dX0_restingCouples_27 ?_
    exact am_is.mk
  | c + 1, k, hc => by
    cases hr : rsB g1 g2 k
    · skip
      refine r_iload_n dX0_restingCouples_4 rfl ?_
      refine r_iconst (v := nI 4) dX0_restingCouples_5 (by decide) ?_
      refine r_icmp_ge (tgt := 26) dX0_restingCouples_6 (by decide) (fun hz => absurd hz (show ¬ _ from (by rw [nI_leI (by omega) (by omega)]; omega))) (fun _ => ?_)
      refine r_aload_n dX0_restingCouples_9 rfl ?_
      refine r_iload_n dX0_restingCouples_10 rfl ?_
      refine r_virtE (c_X0_rests a k g1 g2 a0 a2 a3 a5 a6 hg1 hg2 (by omega)) lk_X0_73 mc_X0_rests dX0_restingCouples_11 a0 (by decide) rfl rfl (Nat.le_of_ble_eq_true rfl) ?_
      rw [hr]
      refine r_if_eq (tgt := 20) dX0_restingCouples_14 (by decide) (fun _ => ?_) (fun hz => absurd (show _ from rfl) hz)
      refine r_iinc (v := nI (k + 1)) dX0_restingCouples_20 rfl (nI_inc k) ?_
      refine r_goto (tgt := 4) dX0_restingCouples_23 (by decide) ?_
      have hx := w_resting (n := n) (J := J) a g1 g2 a0 a2 a3 a5 a6 hg1 hg2 c (k + 1) (by omega)
      rw [show rsC g1 g2 (k + 1) = rsC g1 g2 k + 0 from by show rsC g1 g2 k + (if rsB g1 g2 k = true then 1 else 0) = _; rw [hr]; rfl] at hx
      exact hx
    · skip
      refine r_iload_n dX0_restingCouples_4 rfl ?_
      refine r_iconst (v := nI 4) dX0_restingCouples_5 (by decide) ?_
      refine r_icmp_ge (tgt := 26) dX0_restingCouples_6 (by decide) (fun hz => absurd hz (show ¬ _ from (by rw [nI_leI (by omega) (by omega)]; omega))) (fun _ => ?_)
      refine r_aload_n dX0_restingCouples_9 rfl ?_
      refine r_iload_n dX0_restingCouples_10 rfl ?_
      refine r_virtE (c_X0_rests a k g1 g2 a0 a2 a3 a5 a6 hg1 hg2 (by omega)) lk_X0_73 mc_X0_rests dX0_restingCouples_11 a0 (by decide) rfl rfl (Nat.le_of_ble_eq_true rfl) ?_
      rw [hr]
      refine r_if_eq (tgt := 20) dX0_restingCouples_14 (by decide) (fun hz => absurd hz (show ¬ _ from (by decide))) (fun _ => ?_)
      refine r_iinc (v := nI (rsC g1 g2 k + 1)) dX0_restingCouples_17 rfl (nI_inc _) ?_
      refine r_iinc (v := nI (k + 1)) dX0_restingCouples_20 rfl (nI_inc k) ?_
      refine r_goto (tgt := 4) dX0_restingCouples_23 (by decide) ?_
      have hx := w_resting (n := n) (J := J) a g1 g2 a0 a2 a3 a5 a6 hg1 hg2 c (k + 1) (by omega)
      rw [show rsC g1 g2 (k + 1) = rsC g1 g2 k + 1 from by show rsC g1 g2 k + (if rsB g1 g2 k = true then 1 else 0) = _; rw [hr]; rfl] at hx
      exact hx

set_option maxHeartbeats 4000000 in
set_option maxRecDepth 100000 in
theorem c_X0_resting (a : Nat) (g1 g2 : Nat → Nat) {n : Nat} {kd : mK} {I : mI} {J : mJ} {P : mP} (a0 : kd a = some (0, 0)) (a2 : kd (a + 7) = some (1, 4)) (a3 : kd (a + 8) = some (1, 4)) (a5 : P a 1 = some (a + 7)) (a6 : P a 2 = some (a + 8)) (hg1 : ∀ j, j < 4 → I (a + 7) j = nI (g1 j) ∧ g1 j < 2 ^ 31) (hg2 : ∀ j, j < 4 → I (a + 8) j = nI (g2 j) ∧ g2 j < 2 ^ 31) : Ct yX0_restingCouples cX0_restingCouples 3 (some .int) 2 0 0 [.ref a] n kd I J P (am_is (some (.int (nI (rsC g1 g2 4)))) n kd I J P) := by
  refine ct_of 2 (by decide +kernel) (Nat.le_of_ble_eq_true rfl) rfl ?_
  refine r_iconst (v := nI 0) dX0_restingCouples_0 (by decide) ?_
  refine r_istore_n dX0_restingCouples_1 (by decide) ?_
  refine r_iconst (v := nI 0) dX0_restingCouples_2 (by decide) ?_
  refine r_istore_n dX0_restingCouples_3 (by decide) ?_
  exact w_resting a g1 g2 a0 a2 a3 a5 a6 hg1 hg2 4 0 rfl

theorem dX0_firstRestingCouple_0 : decode cX0_firstRestingCouple 0 = .ok (.iconst 0, 1) := by decide +kernel
theorem dX0_firstRestingCouple_1 : decode cX0_firstRestingCouple 1 = .ok (.istore_n 1, 1) := by decide +kernel
theorem dX0_firstRestingCouple_2 : decode cX0_firstRestingCouple 2 = .ok (.iload_n 1, 1) := by decide +kernel
theorem dX0_firstRestingCouple_3 : decode cX0_firstRestingCouple 3 = .ok (.iconst 4, 1) := by decide +kernel
theorem dX0_firstRestingCouple_4 : decode cX0_firstRestingCouple 4 = .ok (.if_icmp .ge 19, 3) := by decide +kernel
theorem dX0_firstRestingCouple_7 : decode cX0_firstRestingCouple 7 = .ok (.aload_n 0, 1) := by decide +kernel
theorem dX0_firstRestingCouple_8 : decode cX0_firstRestingCouple 8 = .ok (.iload_n 1, 1) := by decide +kernel
theorem dX0_firstRestingCouple_9 : decode cX0_firstRestingCouple 9 = .ok (.invokevirtual 73, 3) := by decide +kernel
theorem dX0_firstRestingCouple_12 : decode cX0_firstRestingCouple 12 = .ok (.ifCond .eq 5, 3) := by decide +kernel
theorem dX0_firstRestingCouple_15 : decode cX0_firstRestingCouple 15 = .ok (.iload_n 1, 1) := by decide +kernel
theorem dX0_firstRestingCouple_16 : decode cX0_firstRestingCouple 16 = .ok (.ireturn, 1) := by decide +kernel
theorem dX0_firstRestingCouple_17 : decode cX0_firstRestingCouple 17 = .ok (.iinc 1 1, 3) := by decide +kernel
theorem dX0_firstRestingCouple_20 : decode cX0_firstRestingCouple 20 = .ok (.goto (-18), 3) := by decide +kernel
theorem dX0_firstRestingCouple_23 : decode cX0_firstRestingCouple 23 = .ok (.iconst (-1), 1) := by decide +kernel
theorem dX0_firstRestingCouple_24 : decode cX0_firstRestingCouple 24 = .ok (.ireturn, 1) := by decide +kernel

set_option maxHeartbeats 4000000 in
set_option maxRecDepth 100000 in
theorem w_firstRest (a : Nat) (g1 g2 : Nat → Nat) {n : Nat} {kd : mK} {I : mI} {J : mJ} {P : mP} (a0 : kd a = some (0, 0)) (a2 : kd (a + 7) = some (1, 4)) (a3 : kd (a + 8) = some (1, 4)) (a5 : P a 1 = some (a + 7)) (a6 : P a 2 = some (a + 8)) (hg1 : ∀ j, j < 4 → I (a + 7) j = nI (g1 j) ∧ g1 j < 2 ^ 31) (hg2 : ∀ j, j < 4 → I (a + 8) j = nI (g2 j) ∧ g2 j < 2 ^ 31) : ∀ (c k : Nat), k + c = 4 → rsF g1 g2 k = -1 → Ru yX0_firstRestingCouple.cls cX0_firstRestingCouple 2 (some .int) yX0_firstRestingCouple.name 2 (am_is (some (.int (rsF g1 g2 4))) n kd I J P) 0 0 2 [some (.ref a), some (.int (nI k))] [] n kd I J P
  | 0, k, hc, hf => by
    rw [show k = 4 by omega] at hf ⊢
    rw [hf]
    refine r_iload_n dX0_firstRestingCouple_2 rfl ?_
    refine r_iconst (v := nI 4) dX0_firstRestingCouple_3 (by decide) ?_
    refine r_icmp_ge (tgt := 23) dX0_firstRestingCouple_4 (by decide) (fun _ => ?_) (fun hz => absurd (show _ from (by rw [nI_leI (by omega) (by omega)]; omega)) hz)
    refine r_iconst (v := (-1)) dX0_firstRestingCouple_23 (by decide) ?_
    refine r_iret rfl dX0_firstRestingCouple_24 ?_
    exact am_is.mk
  | c + 1, k, hc, hf => by
    cases hr : rsB g1 g2 k
    · skip
      refine r_iload_n dX0_firstRestingCouple_2 rfl ?_
      refine r_iconst (v := nI 4) dX0_firstRestingCouple_3 (by decide) ?_
      refine r_icmp_ge (tgt := 23) dX0_firstRestingCouple_4 (by decide) (fun hz => absurd hz (show ¬ _ from (by rw [nI_leI (by omega) (by omega)]; omega))) (fun _ => ?_)
      refine r_aload_n dX0_firstRestingCouple_7 rfl ?_
      refine r_iload_n dX0_firstRestingCouple_8 rfl ?_
      refine r_virtE (c_X0_rests a k g1 g2 a0 a2 a3 a5 a6 hg1 hg2 (by omega)) lk_X0_73 mc_X0_rests dX0_firstRestingCouple_9 a0 (by decide) rfl rfl (Nat.le_of_ble_eq_true rfl) ?_
      rw [hr]
      refine r_if_eq (tgt := 17) dX0_firstRestingCouple_12 (by decide) (fun _ => ?_) (fun hz => absurd (show _ from rfl) hz)
      refine r_iinc (v := nI (k + 1)) dX0_firstRestingCouple_17 rfl (nI_inc k) ?_
      refine r_goto (tgt := 2) dX0_firstRestingCouple_20 (by decide) ?_
      exact w_firstRest a g1 g2 a0 a2 a3 a5 a6 hg1 hg2 c (k + 1) (by omega) (by show (if rsF g1 g2 k = -1 then _ else _) = _; rw [if_pos hf, if_neg (by rw [hr]; decide)])
    · have hv : rsF g1 g2 (k + 1) = nI k := by show (if rsF g1 g2 k = -1 then _ else _) = _; rw [if_pos hf, if_pos hr]
      have hw := rsF_st (g1 := g1) (g2 := g2) (k := k + 1) (by rw [hv]; exact nI_m1 (by omega)) c
      rw [show k + 1 + c = 4 by omega, hv] at hw
      rw [hw]
      refine r_iload_n dX0_firstRestingCouple_2 rfl ?_
      refine r_iconst (v := nI 4) dX0_firstRestingCouple_3 (by decide) ?_
      refine r_icmp_ge (tgt := 23) dX0_firstRestingCouple_4 (by decide) (fun hz => absurd hz (show ¬ _ from (by rw [nI_leI (by omega) (by omega)]; omega))) (fun _ => ?_)
      refine r_aload_n dX0_firstRestingCouple_7 rfl ?_
      refine r_iload_n dX0_firstRestingCouple_8 rfl ?_
      refine r_virtE (c_X0_rests a k g1 g2 a0 a2 a3 a5 a6 hg1 hg2 (by omega)) lk_X0_73 mc_X0_rests dX0_firstRestingCouple_9 a0 (by decide) rfl rfl (Nat.le_of_ble_eq_true rfl) ?_
      rw [hr]
      refine r_if_eq (tgt := 17) dX0_firstRestingCouple_12 (by decide) (fun hz => absurd hz (show ¬ _ from (by decide))) (fun _ => ?_)
      refine r_iload_n dX0_firstRestingCouple_15 rfl ?_
      refine r_iret rfl dX0_firstRestingCouple_16 ?_
      exact am_is.mk

set_option maxHeartbeats 4000000 in
set_option maxRecDepth 100000 in
theorem c_X0_firstRest (a : Nat) (g1 g2 : Nat → Nat) {n : Nat} {kd : mK} {I : mI} {J : mJ} {P : mP} (a0 : kd a = some (0, 0)) (a2 : kd (a + 7) = some (1, 4)) (a3 : kd (a + 8) = some (1, 4)) (a5 : P a 1 = some (a + 7)) (a6 : P a 2 = some (a + 8)) (hg1 : ∀ j, j < 4 → I (a + 7) j = nI (g1 j) ∧ g1 j < 2 ^ 31) (hg2 : ∀ j, j < 4 → I (a + 8) j = nI (g2 j) ∧ g2 j < 2 ^ 31) : Ct yX0_firstRestingCouple cX0_firstRestingCouple 2 (some .int) 2 0 0 [.ref a] n kd I J P (am_is (some (.int (rsF g1 g2 4))) n kd I J P) := by
  refine ct_of 1 (by decide +kernel) (Nat.le_of_ble_eq_true rfl) rfl ?_
  refine r_iconst (v := nI 0) dX0_firstRestingCouple_0 (by decide) ?_
  refine r_istore_n dX0_firstRestingCouple_1 (by decide) ?_
  exact w_firstRest a g1 g2 a0 a2 a3 a5 a6 hg1 hg2 4 0 rfl rfl


set_option maxHeartbeats 4000000 in
set_option maxRecDepth 100000 in
theorem k_feud_no2 (o b s f l : Nat) (h1 : Nat) (y z : Int32) {t : Nat} {T : Nat → Nat} {fp : Int32} {rr : Nat → Int32} {H M : Nat} {un : Bool} {cs : Nat → List Nat} {tx : Nat → List Int32} {e : Lf} {im : Option Lf} {wk : Option (List Nat)} {n : Nat} {kd : mK} {I : mI} {J : mJ} {P : mP} (hC : CR o b s f l n kd I J P t T fp rr H M un cs tx e im wk) (hz : okZ t T H M cs e) (ha : h1 < H) (hy : (!decide (y < 0) && decide (y < nI H)) = false) : Ct yX9_feud cX9_feud 4 (some .int) 9 1 6 [.ref o, .int (nI h1), .int y, .int z] n kd I J P (fun z n' kd' I' J' P' => z = .inr "java/util/NoSuchElementException" ∧ n' = n ∧ kd' = kd ∧ I' = I ∧ J' = J ∧ P' = P) := by
  obtain ⟨hX, hsc, hT, hSt, hLf, hIm, hWk, hQc, hPc⟩ := hC
  obtain ⟨okt, oks, okl⟩ := hz
  have hS := hX.S
  have hL := hX.L
  have hat := hX.at
  have hH8 : H ≤ 8 := oks.2.1
  have hM20 : 2 ≤ M ∧ M ≤ 20 := oks.1
  have hH : I b 0 = nI H := hSt.1.1
  have hMo : I b 1 = nI M := hSt.2.1
  obtain ⟨⟨x0, x1, x2⟩, -, ⟨-, -, hLk⟩, ⟨hQ, hA, hG, hW, hRd, hD, hPg⟩, ⟨p0, p3, p8, p10, p12, p13, p14, p15, p16, p17⟩, ⟨p4, p5, p6, p7⟩, -, -, -⟩ := id hX
  refine ct_of 0 (by decide +kernel) (Nat.le_of_ble_eq_true rfl) rfl ?_
  refine r_aload_n dX9_feud_0 rfl ?_
  refine r_iload_n dX9_feud_1 rfl ?_
  refine r_virtV (m0_House o b (nI h1) x0 p4 hS.1 (by rw [hH]; exact (isH_of ha (by omega)))) lk_X9_142 mc_X9_mustBeHouse dX9_feud_2 x0 (by decide) rfl rfl (Nat.le_of_ble_eq_true rfl) ?_
  refine r_aload_n dX9_feud_5 rfl ?_
  refine r_iload_n dX9_feud_6 rfl ?_
  have hc7 := c_X9_mustBeHouse (n := n) (kd := kd) (I := I) (J := J) (P := P) o b (y) x0 p4 hS.1
  rw [hH, hy] at hc7
  exact r_virtX hc7 lk_X9_142 mc_X9_mustBeHouse dX9_feud_7 x0 (by decide) rfl rfl (Nat.le_of_ble_eq_true rfl) (by decide) (by decide) ⟨rfl, rfl, rfl, rfl, rfl, rfl⟩

set_option maxHeartbeats 4000000 in
set_option maxRecDepth 100000 in
theorem k_feud_no (o b s f l : Nat) (h1 h2 : Nat) (z : Int32) {t : Nat} {T : Nat → Nat} {fp : Int32} {rr : Nat → Int32} {H M : Nat} {un : Bool} {cs : Nat → List Nat} {tx : Nat → List Int32} {e : Lf} {im : Option Lf} {wk : Option (List Nat)} {n : Nat} {kd : mK} {I : mI} {J : mJ} {P : mP} (hC : CR o b s f l n kd I J P t T fp rr H M un cs tx e im wk) (hz : okZ t T H M cs e) (ha : h1 < H) (hb : h2 < H) (hy : (!decide (z < 0) && decide (z < nI 2)) = false) : Ct yX9_feud cX9_feud 4 (some .int) 9 1 6 [.ref o, .int (nI h1), .int (nI h2), .int z] n kd I J P (fun z n' kd' I' J' P' => z = .inr "java/util/NoSuchElementException" ∧ n' = n ∧ kd' = kd ∧ I' = I ∧ J' = J ∧ P' = P) := by
  obtain ⟨hX, hsc, hT, hSt, hLf, hIm, hWk, hQc, hPc⟩ := hC
  obtain ⟨okt, oks, okl⟩ := hz
  have hS := hX.S
  have hL := hX.L
  have hat := hX.at
  have hH8 : H ≤ 8 := oks.2.1
  have hM20 : 2 ≤ M ∧ M ≤ 20 := oks.1
  have hH : I b 0 = nI H := hSt.1.1
  have hMo : I b 1 = nI M := hSt.2.1
  obtain ⟨⟨x0, x1, x2⟩, -, ⟨-, -, hLk⟩, ⟨hQ, hA, hG, hW, hRd, hD, hPg⟩, ⟨p0, p3, p8, p10, p12, p13, p14, p15, p16, p17⟩, ⟨p4, p5, p6, p7⟩, -, -, -⟩ := id hX
  refine ct_of 0 (by decide +kernel) (Nat.le_of_ble_eq_true rfl) rfl ?_
  refine r_aload_n dX9_feud_0 rfl ?_
  refine r_iload_n dX9_feud_1 rfl ?_
  refine r_virtV (m0_House o b (nI h1) x0 p4 hS.1 (by rw [hH]; exact (isH_of ha (by omega)))) lk_X9_142 mc_X9_mustBeHouse dX9_feud_2 x0 (by decide) rfl rfl (Nat.le_of_ble_eq_true rfl) ?_
  refine r_aload_n dX9_feud_5 rfl ?_
  refine r_iload_n dX9_feud_6 rfl ?_
  refine r_virtV (m0_House o b (nI h2) x0 p4 hS.1 (by rw [hH]; exact (isH_of hb (by omega)))) lk_X9_142 mc_X9_mustBeHouse dX9_feud_7 x0 (by decide) rfl rfl (Nat.le_of_ble_eq_true rfl) ?_
  refine r_aload_n dX9_feud_10 rfl ?_
  refine r_iload_n dX9_feud_11 rfl ?_
  refine r_iconst (v := nI 2) dX9_feud_12 (by decide) ?_
  have hc13 := c_X9_mustBeWhat (n := n) (kd := kd) (I := I) (J := J) (P := P) o (z) (nI 2)
  rw [hy] at hc13
  exact r_virtX hc13 lk_X9_162 mc_X9_mustBeWhat dX9_feud_13 x0 (by decide) rfl rfl (Nat.le_of_ble_eq_true rfl) (by decide) (by decide) ⟨rfl, rfl, rfl, rfl, rfl, rfl⟩

set_option maxHeartbeats 4000000 in
set_option maxRecDepth 100000 in
theorem k_feud_same (o b s f l : Nat) (h1 k : Nat) {t : Nat} {T : Nat → Nat} {fp : Int32} {rr : Nat → Int32} {H M : Nat} {un : Bool} {cs : Nat → List Nat} {tx : Nat → List Int32} {e : Lf} {im : Option Lf} {wk : Option (List Nat)} {n : Nat} {kd : mK} {I : mI} {J : mJ} {P : mP} (hC : CR o b s f l n kd I J P t T fp rr H M un cs tx e im wk) (hz : okZ t T H M cs e) (ha : h1 < H) (hk2 : k < 2) : Ct yX9_feud cX9_feud 4 (some .int) 9 1 6 [.ref o, .int (nI h1), .int (nI h1), .int (nI k)] n kd I J P (fun z n' kd' I' J' P' => z = .inr "java/lang/IllegalArgumentException" ∧ n' = n ∧ kd' = kd ∧ I' = I ∧ J' = J ∧ P' = P) := by
  obtain ⟨hX, hsc, hT, hSt, hLf, hIm, hWk, hQc, hPc⟩ := hC
  obtain ⟨okt, oks, okl⟩ := hz
  have hS := hX.S
  have hL := hX.L
  have hat := hX.at
  have hH8 : H ≤ 8 := oks.2.1
  have hM20 : 2 ≤ M ∧ M ≤ 20 := oks.1
  have hH : I b 0 = nI H := hSt.1.1
  have hMo : I b 1 = nI M := hSt.2.1
  obtain ⟨⟨x0, x1, x2⟩, -, ⟨-, -, hLk⟩, ⟨hQ, hA, hG, hW, hRd, hD, hPg⟩, ⟨p0, p3, p8, p10, p12, p13, p14, p15, p16, p17⟩, ⟨p4, p5, p6, p7⟩, -, -, -⟩ := id hX
  have hb := ha
  refine ct_of 0 (by decide +kernel) (Nat.le_of_ble_eq_true rfl) rfl ?_
  refine r_aload_n dX9_feud_0 rfl ?_
  refine r_iload_n dX9_feud_1 rfl ?_
  refine r_virtV (m0_House o b (nI h1) x0 p4 hS.1 (by rw [hH]; exact (isH_of ha (by omega)))) lk_X9_142 mc_X9_mustBeHouse dX9_feud_2 x0 (by decide) rfl rfl (Nat.le_of_ble_eq_true rfl) ?_
  refine r_aload_n dX9_feud_5 rfl ?_
  refine r_iload_n dX9_feud_6 rfl ?_
  refine r_virtV (m0_House o b (nI h1) x0 p4 hS.1 (by rw [hH]; exact (isH_of hb (by omega)))) lk_X9_142 mc_X9_mustBeHouse dX9_feud_7 x0 (by decide) rfl rfl (Nat.le_of_ble_eq_true rfl) ?_
  refine r_aload_n dX9_feud_10 rfl ?_
  refine r_iload_n dX9_feud_11 rfl ?_
  refine r_iconst (v := nI 2) dX9_feud_12 (by decide) ?_
  refine r_virtV (m0_What o (nI k) (nI 2) (isH_of hk2 (by omega))) lk_X9_162 mc_X9_mustBeWhat dX9_feud_13 x0 (by decide) rfl rfl (Nat.le_of_ble_eq_true rfl) ?_
  refine r_iload_n dX9_feud_16 rfl ?_
  refine r_iload_n dX9_feud_17 rfl ?_
  refine r_icmp_ne (tgt := 29) dX9_feud_18 (by decide) (fun hz => absurd (show _ from rfl) hz) (fun _ => ?_)
  refine r_throw (cls := "java/lang/IllegalArgumentException") (names := ["java/lang/RuntimeException", "java/lang/Exception"]) dX9_feud_21 dX9_feud_24 dX9_feud_25 dX9_feud_28 (by decide +kernel) (by decide +kernel) cl_X9_110 xi_IllegalArgumentException xa_iae xb_iae (by decide) (Nat.le_of_ble_eq_true rfl) (by omega) (by omega) ?_
  exact ⟨rfl, rfl, rfl, rfl, rfl, rfl⟩

set_option maxHeartbeats 4000000 in
set_option maxRecDepth 100000 in
theorem k_feud (o b s f l : Nat) (h1 h2 k : Nat) {t : Nat} {T : Nat → Nat} {fp : Int32} {rr : Nat → Int32} {H M : Nat} {un : Bool} {cs : Nat → List Nat} {tx : Nat → List Int32} {e : Lf} {im : Option Lf} {wk : Option (List Nat)} {n : Nat} {kd : mK} {I : mI} {J : mJ} {P : mP} (hC : CR o b s f l n kd I J P t T fp rr H M un cs tx e im wk) (hz : okZ t T H M cs e) (ha : h1 < H) (hb : h2 < H) (hk2 : k < 2) (hne : ¬ h1 = h2) : Ct yX9_feud cX9_feud 4 (some .int) 9 1 6 [.ref o, .int (nI h1), .int (nI h2), .int (nI k)] n kd I J P (pK o n kd I J P (.inl (some (.int (fdV H M un cs e h1 h2 k)))) (CX o t T fp rr H M un cs tx e im wk)) := by
  have hC0 := hC
  have hz0 := hz
  obtain ⟨hX, hsc, hT, hSt, hLf, hIm, hWk, hQc, hPc⟩ := hC
  obtain ⟨okt, oks, okl⟩ := hz
  have hS := hX.S
  have hL := hX.L
  have hat := hX.at
  have hH8 : H ≤ 8 := oks.2.1
  have hM20 : 2 ≤ M ∧ M ≤ 20 := oks.1
  have hH : I b 0 = nI H := hSt.1.1
  have hMo : I b 1 = nI M := hSt.2.1
  obtain ⟨⟨x0, x1, x2⟩, -, ⟨-, -, hLk⟩, ⟨hQ, hA, hG, hW, hRd, hD, hPg⟩, ⟨p0, p3, p8, p10, p12, p13, p14, p15, p16, p17⟩, ⟨p4, p5, p6, p7⟩, -, -, -⟩ := id hX
  refine ct_of 0 (by decide +kernel) (Nat.le_of_ble_eq_true rfl) rfl ?_
  rcases gd2 (fdA H M un cs e h1 h2 4 0) with hg | hg
  · rw [show fdV H M un cs e h1 h2 k = -2 from if_neg (by rw [hg]; decide)]
    refine r_aload_n dX9_feud_0 rfl ?_
    refine r_iload_n dX9_feud_1 rfl ?_
    refine r_virtV (m0_House o b (nI h1) x0 p4 hS.1 (by rw [hH]; exact (isH_of ha (by omega)))) lk_X9_142 mc_X9_mustBeHouse dX9_feud_2 x0 (by decide) rfl rfl (Nat.le_of_ble_eq_true rfl) ?_
    refine r_aload_n dX9_feud_5 rfl ?_
    refine r_iload_n dX9_feud_6 rfl ?_
    refine r_virtV (m0_House o b (nI h2) x0 p4 hS.1 (by rw [hH]; exact (isH_of hb (by omega)))) lk_X9_142 mc_X9_mustBeHouse dX9_feud_7 x0 (by decide) rfl rfl (Nat.le_of_ble_eq_true rfl) ?_
    refine r_aload_n dX9_feud_10 rfl ?_
    refine r_iload_n dX9_feud_11 rfl ?_
    refine r_iconst (v := nI 2) dX9_feud_12 (by decide) ?_
    refine r_virtV (m0_What o (nI k) (nI 2) (isH_of hk2 (by omega))) lk_X9_162 mc_X9_mustBeWhat dX9_feud_13 x0 (by decide) rfl rfl (Nat.le_of_ble_eq_true rfl) ?_
    refine r_iload_n dX9_feud_16 rfl ?_
    refine r_iload_n dX9_feud_17 rfl ?_
    refine r_icmp_ne (tgt := 29) dX9_feud_18 (by decide) (fun _ => ?_) (fun hz => absurd hz (show ¬ _ from (by rw [nI_eq (by omega) (by omega)]; exact hne)))
    refine r_aload_n dX9_feud_29 rfl ?_
    refine r_getR dX9_feud_30 fl_X9_64 rfl x0 p12 ?_
    refine r_aload_n dX9_feud_33 rfl ?_
    refine r_getR dX9_feud_34 fl_X9_27 rfl (by assumption) (by assumption) ?_
    refine r_aload_n dX9_feud_37 rfl ?_
    refine r_getR dX9_feud_38 fl_X9_37 rfl (by assumption) (by assumption) ?_
    refine r_iload_n dX9_feud_41 rfl ?_
    refine r_iload_n dX9_feud_42 rfl ?_
    refine r_virt (kc2 := 0) (ks2 := 0) (c_gains o b s f l h1 h2 hC0 hz0 ha hb) lk_X9_254 mc_X0_gainsOfFeud dX9_feud_43 hA.1 (by decide) rfl rfl (Nat.le_of_ble_eq_true rfl) (by decide) (by decide) (fun _ _ _ _ _ _ h => nomatch h.1) ?_
    rintro v1 n1 kd1 I1 J1 P1 ⟨h00, rfl, rfl, hB1, hC1, hrow⟩
    cases h00
    simp only [Option.toList, List.nil_append, List.cons_append]
    obtain ⟨⟨y0, y1, y2⟩, -, -, ⟨-, hA1, -, -, -, -, -⟩, ⟨-, -, -, -, r12, -, -, -, -, -⟩, -, -, -, -⟩ := id hC1.1
    rw [hg]
    refine r_if_ne (tgt := 52) dX9_feud_46 (by decide) (fun hz => absurd (show _ from rfl) hz) (fun _ => ?_)
    refine r_bipush (v := (-2)) dX9_feud_49 (by decide) ?_
    refine r_iret rfl dX9_feud_51 ?_
    exact pK.bs hB1 hC1
  · by_cases c : k = 0
    · rw [show fdV H M un cs e h1 h2 k = nI (rsC (g1N H M un cs e h1 h2) (g2N H M un cs e h1 h2) 4) from by unfold fdV; rw [if_pos hg, if_pos c]]
      refine r_aload_n dX9_feud_0 rfl ?_
      refine r_iload_n dX9_feud_1 rfl ?_
      refine r_virtV (m0_House o b (nI h1) x0 p4 hS.1 (by rw [hH]; exact (isH_of ha (by omega)))) lk_X9_142 mc_X9_mustBeHouse dX9_feud_2 x0 (by decide) rfl rfl (Nat.le_of_ble_eq_true rfl) ?_
      refine r_aload_n dX9_feud_5 rfl ?_
      refine r_iload_n dX9_feud_6 rfl ?_
      refine r_virtV (m0_House o b (nI h2) x0 p4 hS.1 (by rw [hH]; exact (isH_of hb (by omega)))) lk_X9_142 mc_X9_mustBeHouse dX9_feud_7 x0 (by decide) rfl rfl (Nat.le_of_ble_eq_true rfl) ?_
      refine r_aload_n dX9_feud_10 rfl ?_
      refine r_iload_n dX9_feud_11 rfl ?_
      refine r_iconst (v := nI 2) dX9_feud_12 (by decide) ?_
      refine r_virtV (m0_What o (nI k) (nI 2) (isH_of hk2 (by omega))) lk_X9_162 mc_X9_mustBeWhat dX9_feud_13 x0 (by decide) rfl rfl (Nat.le_of_ble_eq_true rfl) ?_
      refine r_iload_n dX9_feud_16 rfl ?_
      refine r_iload_n dX9_feud_17 rfl ?_
      refine r_icmp_ne (tgt := 29) dX9_feud_18 (by decide) (fun _ => ?_) (fun hz => absurd hz (show ¬ _ from (by rw [nI_eq (by omega) (by omega)]; exact hne)))
      refine r_aload_n dX9_feud_29 rfl ?_
      refine r_getR dX9_feud_30 fl_X9_64 rfl x0 p12 ?_
      refine r_aload_n dX9_feud_33 rfl ?_
      refine r_getR dX9_feud_34 fl_X9_27 rfl (by assumption) (by assumption) ?_
      refine r_aload_n dX9_feud_37 rfl ?_
      refine r_getR dX9_feud_38 fl_X9_37 rfl (by assumption) (by assumption) ?_
      refine r_iload_n dX9_feud_41 rfl ?_
      refine r_iload_n dX9_feud_42 rfl ?_
      refine r_virt (kc2 := 0) (ks2 := 0) (c_gains o b s f l h1 h2 hC0 hz0 ha hb) lk_X9_254 mc_X0_gainsOfFeud dX9_feud_43 hA.1 (by decide) rfl rfl (Nat.le_of_ble_eq_true rfl) (by decide) (by decide) (fun _ _ _ _ _ _ h => nomatch h.1) ?_
      rintro v1 n1 kd1 I1 J1 P1 ⟨h00, rfl, rfl, hB1, hC1, hrow⟩
      cases h00
      simp only [Option.toList, List.nil_append, List.cons_append]
      obtain ⟨⟨y0, y1, y2⟩, -, -, ⟨-, hA1, -, -, -, -, -⟩, ⟨-, -, -, -, r12, -, -, -, -, -⟩, -, -, -, -⟩ := id hC1.1
      rw [hg]
      refine r_if_ne (tgt := 52) dX9_feud_46 (by decide) (fun _ => ?_) (fun hz => absurd hz (show ¬ _ from (by decide)))
      refine r_iload_n dX9_feud_52 rfl ?_
      refine r_if_ne (tgt := 66) dX9_feud_53 (by decide) (fun hz => absurd (show _ from (by rw [c]; rfl)) hz) (fun _ => ?_)
      refine r_aload_n dX9_feud_56 rfl ?_
      refine r_getR dX9_feud_57 fl_X9_64 rfl y0 r12 ?_
      refine r_virtE (c_X0_resting (o + 47) _ _ hA1.1 hA1.2.2.1 hA1.2.2.2.1 hA1.2.2.2.2.2.1 hA1.2.2.2.2.2.2 (fun j hj => ⟨(hrow hg j hj).1, Nat.lt_of_le_of_lt (gnN_le _ _ _) (by decide)⟩) (fun j hj => ⟨(hrow hg j hj).2, Nat.lt_of_le_of_lt (gnN_le _ _ _) (by decide)⟩)) lk_X9_258 mc_X0_restingCouples dX9_feud_60 hA1.1 (by decide) rfl rfl (Nat.le_of_ble_eq_true rfl) ?_
      refine r_goto (tgt := 73) dX9_feud_63 (by decide) ?_
      refine r_iret rfl dX9_feud_73 ?_
      exact pK.bs hB1 hC1
    · rw [show fdV H M un cs e h1 h2 k = rsF (g1N H M un cs e h1 h2) (g2N H M un cs e h1 h2) 4 from by unfold fdV; rw [if_pos hg, if_neg c]]
      refine r_aload_n dX9_feud_0 rfl ?_
      refine r_iload_n dX9_feud_1 rfl ?_
      refine r_virtV (m0_House o b (nI h1) x0 p4 hS.1 (by rw [hH]; exact (isH_of ha (by omega)))) lk_X9_142 mc_X9_mustBeHouse dX9_feud_2 x0 (by decide) rfl rfl (Nat.le_of_ble_eq_true rfl) ?_
      refine r_aload_n dX9_feud_5 rfl ?_
      refine r_iload_n dX9_feud_6 rfl ?_
      refine r_virtV (m0_House o b (nI h2) x0 p4 hS.1 (by rw [hH]; exact (isH_of hb (by omega)))) lk_X9_142 mc_X9_mustBeHouse dX9_feud_7 x0 (by decide) rfl rfl (Nat.le_of_ble_eq_true rfl) ?_
      refine r_aload_n dX9_feud_10 rfl ?_
      refine r_iload_n dX9_feud_11 rfl ?_
      refine r_iconst (v := nI 2) dX9_feud_12 (by decide) ?_
      refine r_virtV (m0_What o (nI k) (nI 2) (isH_of hk2 (by omega))) lk_X9_162 mc_X9_mustBeWhat dX9_feud_13 x0 (by decide) rfl rfl (Nat.le_of_ble_eq_true rfl) ?_
      refine r_iload_n dX9_feud_16 rfl ?_
      refine r_iload_n dX9_feud_17 rfl ?_
      refine r_icmp_ne (tgt := 29) dX9_feud_18 (by decide) (fun _ => ?_) (fun hz => absurd hz (show ¬ _ from (by rw [nI_eq (by omega) (by omega)]; exact hne)))
      refine r_aload_n dX9_feud_29 rfl ?_
      refine r_getR dX9_feud_30 fl_X9_64 rfl x0 p12 ?_
      refine r_aload_n dX9_feud_33 rfl ?_
      refine r_getR dX9_feud_34 fl_X9_27 rfl (by assumption) (by assumption) ?_
      refine r_aload_n dX9_feud_37 rfl ?_
      refine r_getR dX9_feud_38 fl_X9_37 rfl (by assumption) (by assumption) ?_
      refine r_iload_n dX9_feud_41 rfl ?_
      refine r_iload_n dX9_feud_42 rfl ?_
      refine r_virt (kc2 := 0) (ks2 := 0) (c_gains o b s f l h1 h2 hC0 hz0 ha hb) lk_X9_254 mc_X0_gainsOfFeud dX9_feud_43 hA.1 (by decide) rfl rfl (Nat.le_of_ble_eq_true rfl) (by decide) (by decide) (fun _ _ _ _ _ _ h => nomatch h.1) ?_
      rintro v1 n1 kd1 I1 J1 P1 ⟨h00, rfl, rfl, hB1, hC1, hrow⟩
      cases h00
      simp only [Option.toList, List.nil_append, List.cons_append]
      obtain ⟨⟨y0, y1, y2⟩, -, -, ⟨-, hA1, -, -, -, -, -⟩, ⟨-, -, -, -, r12, -, -, -, -, -⟩, -, -, -, -⟩ := id hC1.1
      rw [hg]
      refine r_if_ne (tgt := 52) dX9_feud_46 (by decide) (fun _ => ?_) (fun hz => absurd hz (show ¬ _ from (by decide)))
      refine r_iload_n dX9_feud_52 rfl ?_
      refine r_if_ne (tgt := 66) dX9_feud_53 (by decide) (fun _ => ?_) (fun hz => absurd hz (show ¬ _ from (nI_ne0 (by omega) (by omega))))
      refine r_aload_n dX9_feud_66 rfl ?_
      refine r_getR dX9_feud_67 fl_X9_64 rfl y0 r12 ?_
      refine r_virtE (c_X0_firstRest (o + 47) _ _ hA1.1 hA1.2.2.1 hA1.2.2.2.1 hA1.2.2.2.2.2.1 hA1.2.2.2.2.2.2 (fun j hj => ⟨(hrow hg j hj).1, Nat.lt_of_le_of_lt (gnN_le _ _ _) (by decide)⟩) (fun j hj => ⟨(hrow hg j hj).2, Nat.lt_of_le_of_lt (gnN_le _ _ _) (by decide)⟩)) lk_X9_261 mc_X0_firstRestingCouple dX9_feud_70 hA1.1 (by decide) rfl rfl (Nat.le_of_ble_eq_true rfl) ?_
      refine r_iret rfl dX9_feud_73 ?_
      exact pK.bs hB1 hC1


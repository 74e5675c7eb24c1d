/-! WHAT IS LEFT OF THE SMALL METHODS, on any state, both sides -/
set_option maxHeartbeats 4000000 in
set_option maxRecDepth 100000 in
theorem k_fault (o b s f l : Nat) {t : Nat} {T : Nat → Nat} {fp : Int32} {rr : Nat → Int32} {H M : Nat} {un : Bool} {cs : Nat → List Nat} {tx : Nat → List Int32} {e : Lf} {im : Option Lf} {wk : Option (List Nat)} {n : Nat} {kd : mK} {I : mI} {J : mJ} {P : mP} (hC : CR o b s f l n kd I J P t T fp rr H M un cs tx e im wk) (hz : okZ t T H M cs e) : Ct yX9_fault cX9_fault 1 (some .int) 9 1 6 [.ref o] n kd I J P (pK o n kd I J P (.inl (some (.int (fp)))) (CX o t T fp rr H M un cs tx e im wk)) := by
  have hC0 := hC
  have hz0 := hz
  obtain ⟨hX, hsc, hT, hSt, hLf, hIm, hWk, hQc, hPc⟩ := hC
  obtain ⟨okt, oks, okl⟩ := hz
  have hS := hX.S
  have hL := hX.L
  have hat := hX.at
  have hH8 : H ≤ 8 := oks.2.1
  have hM20 : 2 ≤ M ∧ M ≤ 20 := oks.1
  have hH : I b 0 = nI H := hSt.1.1
  have hMo : I b 1 = nI M := hSt.2.1
  obtain ⟨⟨x0, x1, x2⟩, -, ⟨-, -, hLk⟩, ⟨hQ, hA, hG, hW, hRd, hD, hPg⟩, ⟨p0, p3, p8, p10, p12, p13, p14, p15, p16, p17⟩, ⟨p4, p5, p6, p7⟩, -, -, -⟩ := id hX
  refine ct_of 0 (by decide +kernel) (Nat.le_of_ble_eq_true rfl) rfl ?_
  refine r_aload_n dX9_fault_0 rfl ?_
  refine r_getI dX9_fault_1 fl_X9_17 rfl x0 ?_
  rw [hT.2.2.1]
  refine r_iret rfl dX9_fault_4 ?_
  exact pK.is hC0 am_is.mk

def ctV (t : Nat) (rr : Nat → Int32) (H M : Nat) (un : Bool) (e : Lf) : Nat → Int32
  | 0 => nI H
  | 1 => nI M
  | 2 => bz un
  | 3 => nI e.2.2.2.1.length
  | 4 => nI e.2.2.2.2.length
  | 5 => nI t
  | 6 => rr 0
  | 7 => rr 1
  | _ => rr 2
theorem bz_z {un : Bool} : (if bz un = 0 then nI 0 else nI 1) = bz un := by cases un <;> rfl
set_option maxHeartbeats 4000000 in
set_option maxRecDepth 100000 in
theorem k_count_0 (o b s f l : Nat) {t : Nat} {T : Nat → Nat} {fp : Int32} {rr : Nat → Int32} {H M : Nat} {un : Bool} {cs : Nat → List Nat} {tx : Nat → List Int32} {e : Lf} {im : Option Lf} {wk : Option (List Nat)} {n : Nat} {kd : mK} {I : mI} {J : mJ} {P : mP} (hC : CR o b s f l n kd I J P t T fp rr H M un cs tx e im wk) (hz : okZ t T H M cs e) : Ct yX9_count cX9_count 2 (some .int) 9 1 6 [.ref o, .int (nI 0)] n kd I J P (pK o n kd I J P (.inl (some (.int (ctV t rr H M un e 0)))) (CX o t T fp rr H M un cs tx e im wk)) := by
  have hC0 := hC
  have hz0 := hz
  obtain ⟨hX, hsc, hT, hSt, hLf, hIm, hWk, hQc, hPc⟩ := hC
  obtain ⟨okt, oks, okl⟩ := hz
  have hS := hX.S
  have hL := hX.L
  have hat := hX.at
  have hH8 : H ≤ 8 := oks.2.1
  have hM20 : 2 ≤ M ∧ M ≤ 20 := oks.1
  have hH : I b 0 = nI H := hSt.1.1
  have hMo : I b 1 = nI M := hSt.2.1
  obtain ⟨⟨x0, x1, x2⟩, -, ⟨-, -, hLk⟩, ⟨hQ, hA, hG, hW, hRd, hD, hPg⟩, ⟨p0, p3, p8, p10, p12, p13, p14, p15, p16, p17⟩, ⟨p4, p5, p6, p7⟩, -, -, -⟩ := id hX
  have hc := c_count_0 (n := n) (I := I) (J := J) o b f x0 hS.1 hL.1 x2 p4 p6 p3
  rw [show I b 0 = ctV t rr H M un e 0 from hSt.1.1] at hc
  exact hc.mono (fun _ _ _ _ _ _ hx => pK.is hC0 hx)

set_option maxHeartbeats 4000000 in
set_option maxRecDepth 100000 in
theorem q_count_0 (m : Nat) {t : Nat} {T : Nat → Nat} {fp : Int32} {rr : Nat → Int32} {H M : Nat} {un : Bool} {cs : Nat → List Nat} {tx : Nat → List Int32} {e : Lf} {im : Option Lf} {wk : Option (List Nat)} {n : Nat} {kd : mK} {I : mI} {J : mJ} {P : mP} (hC : RR m kd I P t T fp rr H M un cs tx e im wk) (hz : okZ t T H M cs e) : Ct yX10_count cX10_count 2 (some .int) 3 0 0 [.ref m, .int (nI 0)] n kd I J P (pQ m n kd I J P (some (.int (ctV t rr H M un e 0))) 0 (RX m t T fp rr H M un cs tx e im wk)) := by
  have hC0 := hC
  obtain ⟨hM, hT, hSt, hLf, hIm, hWk⟩ := hC
  obtain ⟨okt, oks, okl⟩ := hz
  have hH8 : H ≤ 8 := oks.2.1
  have hM20 : 2 ≤ M ∧ M ≤ 20 := oks.1
  have hH : I m 1 = nI H := hSt.1.1
  have hMo : I m 2 = nI M := hSt.1.2.1
  have hc := c_countR_0 (n := n) (I := I) (J := J) m hM
  rw [show I m 1 = ctV t rr H M un e 0 from hSt.1.1] at hc
  exact hc.mono (fun _ _ _ _ _ _ hx => pQ.th hC0 hx)

set_option maxHeartbeats 4000000 in
set_option maxRecDepth 100000 in
theorem k_count_1 (o b s f l : Nat) {t : Nat} {T : Nat → Nat} {fp : Int32} {rr : Nat → Int32} {H M : Nat} {un : Bool} {cs : Nat → List Nat} {tx : Nat → List Int32} {e : Lf} {im : Option Lf} {wk : Option (List Nat)} {n : Nat} {kd : mK} {I : mI} {J : mJ} {P : mP} (hC : CR o b s f l n kd I J P t T fp rr H M un cs tx e im wk) (hz : okZ t T H M cs e) : Ct yX9_count cX9_count 2 (some .int) 9 1 6 [.ref o, .int (nI 1)] n kd I J P (pK o n kd I J P (.inl (some (.int (ctV t rr H M un e 1)))) (CX o t T fp rr H M un cs tx e im wk)) := by
  have hC0 := hC
  have hz0 := hz
  obtain ⟨hX, hsc, hT, hSt, hLf, hIm, hWk, hQc, hPc⟩ := hC
  obtain ⟨okt, oks, okl⟩ := hz
  have hS := hX.S
  have hL := hX.L
  have hat := hX.at
  have hH8 : H ≤ 8 := oks.2.1
  have hM20 : 2 ≤ M ∧ M ≤ 20 := oks.1
  have hH : I b 0 = nI H := hSt.1.1
  have hMo : I b 1 = nI M := hSt.2.1
  obtain ⟨⟨x0, x1, x2⟩, -, ⟨-, -, hLk⟩, ⟨hQ, hA, hG, hW, hRd, hD, hPg⟩, ⟨p0, p3, p8, p10, p12, p13, p14, p15, p16, p17⟩, ⟨p4, p5, p6, p7⟩, -, -, -⟩ := id hX
  have hc := c_count_1 (n := n) (I := I) (J := J) o b f x0 hS.1 hL.1 x2 p4 p6 p3
  rw [show I b 1 = ctV t rr H M un e 1 from hSt.2.1] at hc
  exact hc.mono (fun _ _ _ _ _ _ hx => pK.is hC0 hx)

set_option maxHeartbeats 4000000 in
set_option maxRecDepth 100000 in
theorem q_count_1 (m : Nat) {t : Nat} {T : Nat → Nat} {fp : Int32} {rr : Nat → Int32} {H M : Nat} {un : Bool} {cs : Nat → List Nat} {tx : Nat → List Int32} {e : Lf} {im : Option Lf} {wk : Option (List Nat)} {n : Nat} {kd : mK} {I : mI} {J : mJ} {P : mP} (hC : RR m kd I P t T fp rr H M un cs tx e im wk) (hz : okZ t T H M cs e) : Ct yX10_count cX10_count 2 (some .int) 3 0 0 [.ref m, .int (nI 1)] n kd I J P (pQ m n kd I J P (some (.int (ctV t rr H M un e 1))) 0 (RX m t T fp rr H M un cs tx e im wk)) := by
  have hC0 := hC
  obtain ⟨hM, hT, hSt, hLf, hIm, hWk⟩ := hC
  obtain ⟨okt, oks, okl⟩ := hz
  have hH8 : H ≤ 8 := oks.2.1
  have hM20 : 2 ≤ M ∧ M ≤ 20 := oks.1
  have hH : I m 1 = nI H := hSt.1.1
  have hMo : I m 2 = nI M := hSt.1.2.1
  have hc := c_countR_1 (n := n) (I := I) (J := J) m hM
  rw [show I m 2 = ctV t rr H M un e 1 from hSt.1.2.1] at hc
  exact hc.mono (fun _ _ _ _ _ _ hx => pQ.th hC0 hx)

set_option maxHeartbeats 4000000 in
set_option maxRecDepth 100000 in
theorem k_count_2 (o b s f l : Nat) {t : Nat} {T : Nat → Nat} {fp : Int32} {rr : Nat → Int32} {H M : Nat} {un : Bool} {cs : Nat → List Nat} {tx : Nat → List Int32} {e : Lf} {im : Option Lf} {wk : Option (List Nat)} {n : Nat} {kd : mK} {I : mI} {J : mJ} {P : mP} (hC : CR o b s f l n kd I J P t T fp rr H M un cs tx e im wk) (hz : okZ t T H M cs e) : Ct yX9_count cX9_count 2 (some .int) 9 1 6 [.ref o, .int (nI 2)] n kd I J P (pK o n kd I J P (.inl (some (.int (ctV t rr H M un e 2)))) (CX o t T fp rr H M un cs tx e im wk)) := by
  have hC0 := hC
  have hz0 := hz
  obtain ⟨hX, hsc, hT, hSt, hLf, hIm, hWk, hQc, hPc⟩ := hC
  obtain ⟨okt, oks, okl⟩ := hz
  have hS := hX.S
  have hL := hX.L
  have hat := hX.at
  have hH8 : H ≤ 8 := oks.2.1
  have hM20 : 2 ≤ M ∧ M ≤ 20 := oks.1
  have hH : I b 0 = nI H := hSt.1.1
  have hMo : I b 1 = nI M := hSt.2.1
  obtain ⟨⟨x0, x1, x2⟩, -, ⟨-, -, hLk⟩, ⟨hQ, hA, hG, hW, hRd, hD, hPg⟩, ⟨p0, p3, p8, p10, p12, p13, p14, p15, p16, p17⟩, ⟨p4, p5, p6, p7⟩, -, -, -⟩ := id hX
  have hc := c_count_2 (n := n) (I := I) (J := J) o b f x0 hS.1 hL.1 x2 p4 p6 p3
  rw [show (if I b 2 = 0 then nI 0 else nI 1) = ctV t rr H M un e 2 from (by rw [hSt.2.2.1]; exact bz_z)] at hc
  exact hc.mono (fun _ _ _ _ _ _ hx => pK.is hC0 hx)

set_option maxHeartbeats 4000000 in
set_option maxRecDepth 100000 in
theorem q_count_2 (m : Nat) {t : Nat} {T : Nat → Nat} {fp : Int32} {rr : Nat → Int32} {H M : Nat} {un : Bool} {cs : Nat → List Nat} {tx : Nat → List Int32} {e : Lf} {im : Option Lf} {wk : Option (List Nat)} {n : Nat} {kd : mK} {I : mI} {J : mJ} {P : mP} (hC : RR m kd I P t T fp rr H M un cs tx e im wk) (hz : okZ t T H M cs e) : Ct yX10_count cX10_count 2 (some .int) 3 0 0 [.ref m, .int (nI 2)] n kd I J P (pQ m n kd I J P (some (.int (ctV t rr H M un e 2))) 0 (RX m t T fp rr H M un cs tx e im wk)) := by
  have hC0 := hC
  obtain ⟨hM, hT, hSt, hLf, hIm, hWk⟩ := hC
  obtain ⟨okt, oks, okl⟩ := hz
  have hH8 : H ≤ 8 := oks.2.1
  have hM20 : 2 ≤ M ∧ M ≤ 20 := oks.1
  have hH : I m 1 = nI H := hSt.1.1
  have hMo : I m 2 = nI M := hSt.1.2.1
  have hc := c_countR_2 (n := n) (I := I) (J := J) m hM
  rw [show (if I m 3 = 0 then nI 0 else nI 1) = ctV t rr H M un e 2 from (by rw [hSt.1.2.2]; exact bz_z)] at hc
  exact hc.mono (fun _ _ _ _ _ _ hx => pQ.th hC0 hx)

set_option maxHeartbeats 4000000 in
set_option maxRecDepth 100000 in
theorem k_count_3 (o b s f l : Nat) {t : Nat} {T : Nat → Nat} {fp : Int32} {rr : Nat → Int32} {H M : Nat} {un : Bool} {cs : Nat → List Nat} {tx : Nat → List Int32} {e : Lf} {im : Option Lf} {wk : Option (List Nat)} {n : Nat} {kd : mK} {I : mI} {J : mJ} {P : mP} (hC : CR o b s f l n kd I J P t T fp rr H M un cs tx e im wk) (hz : okZ t T H M cs e) : Ct yX9_count cX9_count 2 (some .int) 9 1 6 [.ref o, .int (nI 3)] n kd I J P (pK o n kd I J P (.inl (some (.int (ctV t rr H M un e 3)))) (CX o t T fp rr H M un cs tx e im wk)) := by
  have hC0 := hC
  have hz0 := hz
  obtain ⟨hX, hsc, hT, hSt, hLf, hIm, hWk, hQc, hPc⟩ := hC
  obtain ⟨okt, oks, okl⟩ := hz
  have hS := hX.S
  have hL := hX.L
  have hat := hX.at
  have hH8 : H ≤ 8 := oks.2.1
  have hM20 : 2 ≤ M ∧ M ≤ 20 := oks.1
  have hH : I b 0 = nI H := hSt.1.1
  have hMo : I b 1 = nI M := hSt.2.1
  obtain ⟨⟨x0, x1, x2⟩, -, ⟨-, -, hLk⟩, ⟨hQ, hA, hG, hW, hRd, hD, hPg⟩, ⟨p0, p3, p8, p10, p12, p13, p14, p15, p16, p17⟩, ⟨p4, p5, p6, p7⟩, -, -, -⟩ := id hX
  have hc := c_count_3 (n := n) (I := I) (J := J) o b f x0 hS.1 hL.1 x2 p4 p6 p3
  rw [show I f 4 = ctV t rr H M un e 3 from hLf.2.2.1.1] at hc
  exact hc.mono (fun _ _ _ _ _ _ hx => pK.is hC0 hx)

set_option maxHeartbeats 4000000 in
set_option maxRecDepth 100000 in
theorem q_count_3 (m : Nat) {t : Nat} {T : Nat → Nat} {fp : Int32} {rr : Nat → Int32} {H M : Nat} {un : Bool} {cs : Nat → List Nat} {tx : Nat → List Int32} {e : Lf} {im : Option Lf} {wk : Option (List Nat)} {n : Nat} {kd : mK} {I : mI} {J : mJ} {P : mP} (hC : RR m kd I P t T fp rr H M un cs tx e im wk) (hz : okZ t T H M cs e) : Ct yX10_count cX10_count 2 (some .int) 3 0 0 [.ref m, .int (nI 3)] n kd I J P (pQ m n kd I J P (some (.int (ctV t rr H M un e 3))) 0 (RX m t T fp rr H M un cs tx e im wk)) := by
  have hC0 := hC
  obtain ⟨hM, hT, hSt, hLf, hIm, hWk⟩ := hC
  obtain ⟨okt, oks, okl⟩ := hz
  have hH8 : H ≤ 8 := oks.2.1
  have hM20 : 2 ≤ M ∧ M ≤ 20 := oks.1
  have hH : I m 1 = nI H := hSt.1.1
  have hMo : I m 2 = nI M := hSt.1.2.1
  have hc := c_countR_3 (n := n) (I := I) (J := J) m hM
  rw [show I m 45 = ctV t rr H M un e 3 from hLf.2.1.1] at hc
  exact hc.mono (fun _ _ _ _ _ _ hx => pQ.th hC0 hx)

set_option maxHeartbeats 4000000 in
set_option maxRecDepth 100000 in
theorem k_count_4 (o b s f l : Nat) {t : Nat} {T : Nat → Nat} {fp : Int32} {rr : Nat → Int32} {H M : Nat} {un : Bool} {cs : Nat → List Nat} {tx : Nat → List Int32} {e : Lf} {im : Option Lf} {wk : Option (List Nat)} {n : Nat} {kd : mK} {I : mI} {J : mJ} {P : mP} (hC : CR o b s f l n kd I J P t T fp rr H M un cs tx e im wk) (hz : okZ t T H M cs e) : Ct yX9_count cX9_count 2 (some .int) 9 1 6 [.ref o, .int (nI 4)] n kd I J P (pK o n kd I J P (.inl (some (.int (ctV t rr H M un e 4)))) (CX o t T fp rr H M un cs tx e im wk)) := by
  have hC0 := hC
  have hz0 := hz
  obtain ⟨hX, hsc, hT, hSt, hLf, hIm, hWk, hQc, hPc⟩ := hC
  obtain ⟨okt, oks, okl⟩ := hz
  have hS := hX.S
  have hL := hX.L
  have hat := hX.at
  have hH8 : H ≤ 8 := oks.2.1
  have hM20 : 2 ≤ M ∧ M ≤ 20 := oks.1
  have hH : I b 0 = nI H := hSt.1.1
  have hMo : I b 1 = nI M := hSt.2.1
  obtain ⟨⟨x0, x1, x2⟩, -, ⟨-, -, hLk⟩, ⟨hQ, hA, hG, hW, hRd, hD, hPg⟩, ⟨p0, p3, p8, p10, p12, p13, p14, p15, p16, p17⟩, ⟨p4, p5, p6, p7⟩, -, -, -⟩ := id hX
  have hc := c_count_4 (n := n) (I := I) (J := J) o b f x0 hS.1 hL.1 x2 p4 p6 p3
  rw [show I f 7 = ctV t rr H M un e 4 from hLf.2.2.2.1] at hc
  exact hc.mono (fun _ _ _ _ _ _ hx => pK.is hC0 hx)

set_option maxHeartbeats 4000000 in
set_option maxRecDepth 100000 in
theorem q_count_4 (m : Nat) {t : Nat} {T : Nat → Nat} {fp : Int32} {rr : Nat → Int32} {H M : Nat} {un : Bool} {cs : Nat → List Nat} {tx : Nat → List Int32} {e : Lf} {im : Option Lf} {wk : Option (List Nat)} {n : Nat} {kd : mK} {I : mI} {J : mJ} {P : mP} (hC : RR m kd I P t T fp rr H M un cs tx e im wk) (hz : okZ t T H M cs e) : Ct yX10_count cX10_count 2 (some .int) 3 0 0 [.ref m, .int (nI 4)] n kd I J P (pQ m n kd I J P (some (.int (ctV t rr H M un e 4))) 0 (RX m t T fp rr H M un cs tx e im wk)) := by
  have hC0 := hC
  obtain ⟨hM, hT, hSt, hLf, hIm, hWk⟩ := hC
  obtain ⟨okt, oks, okl⟩ := hz
  have hH8 : H ≤ 8 := oks.2.1
  have hM20 : 2 ≤ M ∧ M ≤ 20 := oks.1
  have hH : I m 1 = nI H := hSt.1.1
  have hMo : I m 2 = nI M := hSt.1.2.1
  have hc := c_countR_4 (n := n) (I := I) (J := J) m hM
  rw [show I m 47 = ctV t rr H M un e 4 from hLf.2.2.1] at hc
  exact hc.mono (fun _ _ _ _ _ _ hx => pQ.th hC0 hx)

set_option maxHeartbeats 4000000 in
set_option maxRecDepth 100000 in
theorem k_count_5 (o b s f l : Nat) {t : Nat} {T : Nat → Nat} {fp : Int32} {rr : Nat → Int32} {H M : Nat} {un : Bool} {cs : Nat → List Nat} {tx : Nat → List Int32} {e : Lf} {im : Option Lf} {wk : Option (List Nat)} {n : Nat} {kd : mK} {I : mI} {J : mJ} {P : mP} (hC : CR o b s f l n kd I J P t T fp rr H M un cs tx e im wk) (hz : okZ t T H M cs e) : Ct yX9_count cX9_count 2 (some .int) 9 1 6 [.ref o, .int (nI 5)] n kd I J P (pK o n kd I J P (.inl (some (.int (ctV t rr H M un e 5)))) (CX o t T fp rr H M un cs tx e im wk)) := by
  have hC0 := hC
  have hz0 := hz
  obtain ⟨hX, hsc, hT, hSt, hLf, hIm, hWk, hQc, hPc⟩ := hC
  obtain ⟨okt, oks, okl⟩ := hz
  have hS := hX.S
  have hL := hX.L
  have hat := hX.at
  have hH8 : H ≤ 8 := oks.2.1
  have hM20 : 2 ≤ M ∧ M ≤ 20 := oks.1
  have hH : I b 0 = nI H := hSt.1.1
  have hMo : I b 1 = nI M := hSt.2.1
  obtain ⟨⟨x0, x1, x2⟩, -, ⟨-, -, hLk⟩, ⟨hQ, hA, hG, hW, hRd, hD, hPg⟩, ⟨p0, p3, p8, p10, p12, p13, p14, p15, p16, p17⟩, ⟨p4, p5, p6, p7⟩, -, -, -⟩ := id hX
  have hc := c_count_5 (n := n) (I := I) (J := J) o b f x0 hS.1 hL.1 x2 p4 p6 p3
  rw [show I o 1 = ctV t rr H M un e 5 from hT.1] at hc
  exact hc.mono (fun _ _ _ _ _ _ hx => pK.is hC0 hx)

set_option maxHeartbeats 4000000 in
set_option maxRecDepth 100000 in
theorem q_count_5 (m : Nat) {t : Nat} {T : Nat → Nat} {fp : Int32} {rr : Nat → Int32} {H M : Nat} {un : Bool} {cs : Nat → List Nat} {tx : Nat → List Int32} {e : Lf} {im : Option Lf} {wk : Option (List Nat)} {n : Nat} {kd : mK} {I : mI} {J : mJ} {P : mP} (hC : RR m kd I P t T fp rr H M un cs tx e im wk) (hz : okZ t T H M cs e) : Ct yX10_count cX10_count 2 (some .int) 3 0 0 [.ref m, .int (nI 5)] n kd I J P (pQ m n kd I J P (some (.int (ctV t rr H M un e 5))) 0 (RX m t T fp rr H M un cs tx e im wk)) := by
  have hC0 := hC
  obtain ⟨hM, hT, hSt, hLf, hIm, hWk⟩ := hC
  obtain ⟨okt, oks, okl⟩ := hz
  have hH8 : H ≤ 8 := oks.2.1
  have hM20 : 2 ≤ M ∧ M ≤ 20 := oks.1
  have hH : I m 1 = nI H := hSt.1.1
  have hMo : I m 2 = nI M := hSt.1.2.1
  have hc := c_countR_5 (n := n) (I := I) (J := J) m hM
  rw [show I m 15 = ctV t rr H M un e 5 from hT.1] at hc
  exact hc.mono (fun _ _ _ _ _ _ hx => pQ.th hC0 hx)

set_option maxHeartbeats 4000000 in
set_option maxRecDepth 100000 in
theorem k_count_6 (o b s f l : Nat) {t : Nat} {T : Nat → Nat} {fp : Int32} {rr : Nat → Int32} {H M : Nat} {un : Bool} {cs : Nat → List Nat} {tx : Nat → List Int32} {e : Lf} {im : Option Lf} {wk : Option (List Nat)} {n : Nat} {kd : mK} {I : mI} {J : mJ} {P : mP} (hC : CR o b s f l n kd I J P t T fp rr H M un cs tx e im wk) (hz : okZ t T H M cs e) : Ct yX9_count cX9_count 2 (some .int) 9 1 6 [.ref o, .int (nI 6)] n kd I J P (pK o n kd I J P (.inl (some (.int (ctV t rr H M un e 6)))) (CX o t T fp rr H M un cs tx e im wk)) := by
  have hC0 := hC
  have hz0 := hz
  obtain ⟨hX, hsc, hT, hSt, hLf, hIm, hWk, hQc, hPc⟩ := hC
  obtain ⟨okt, oks, okl⟩ := hz
  have hS := hX.S
  have hL := hX.L
  have hat := hX.at
  have hH8 : H ≤ 8 := oks.2.1
  have hM20 : 2 ≤ M ∧ M ≤ 20 := oks.1
  have hH : I b 0 = nI H := hSt.1.1
  have hMo : I b 1 = nI M := hSt.2.1
  obtain ⟨⟨x0, x1, x2⟩, -, ⟨-, -, hLk⟩, ⟨hQ, hA, hG, hW, hRd, hD, hPg⟩, ⟨p0, p3, p8, p10, p12, p13, p14, p15, p16, p17⟩, ⟨p4, p5, p6, p7⟩, -, -, -⟩ := id hX
  have hc := c_count_6 (n := n) (I := I) (J := J) o b f x0 hS.1 hL.1 x2 p4 p6 p3
  rw [show I (o + 2) 0 = ctV t rr H M un e 6 from (hT.2.2.2 0 (by decide))] at hc
  exact hc.mono (fun _ _ _ _ _ _ hx => pK.is hC0 hx)

set_option maxHeartbeats 4000000 in
set_option maxRecDepth 100000 in
theorem q_count_6 (m : Nat) {t : Nat} {T : Nat → Nat} {fp : Int32} {rr : Nat → Int32} {H M : Nat} {un : Bool} {cs : Nat → List Nat} {tx : Nat → List Int32} {e : Lf} {im : Option Lf} {wk : Option (List Nat)} {n : Nat} {kd : mK} {I : mI} {J : mJ} {P : mP} (hC : RR m kd I P t T fp rr H M un cs tx e im wk) (hz : okZ t T H M cs e) : Ct yX10_count cX10_count 2 (some .int) 3 0 0 [.ref m, .int (nI 6)] n kd I J P (pQ m n kd I J P (some (.int (ctV t rr H M un e 6))) 0 (RX m t T fp rr H M un cs tx e im wk)) := by
  have hC0 := hC
  obtain ⟨hM, hT, hSt, hLf, hIm, hWk⟩ := hC
  obtain ⟨okt, oks, okl⟩ := hz
  have hH8 : H ≤ 8 := oks.2.1
  have hM20 : 2 ≤ M ∧ M ≤ 20 := oks.1
  have hH : I m 1 = nI H := hSt.1.1
  have hMo : I m 2 = nI M := hSt.1.2.1
  have hc := c_countR_6 (n := n) (I := I) (J := J) m hM
  rw [show I (m + 12) 0 = ctV t rr H M un e 6 from (hT.2.2.2 0 (by decide))] at hc
  exact hc.mono (fun _ _ _ _ _ _ hx => pQ.th hC0 hx)

set_option maxHeartbeats 4000000 in
set_option maxRecDepth 100000 in
theorem k_count_7 (o b s f l : Nat) {t : Nat} {T : Nat → Nat} {fp : Int32} {rr : Nat → Int32} {H M : Nat} {un : Bool} {cs : Nat → List Nat} {tx : Nat → List Int32} {e : Lf} {im : Option Lf} {wk : Option (List Nat)} {n : Nat} {kd : mK} {I : mI} {J : mJ} {P : mP} (hC : CR o b s f l n kd I J P t T fp rr H M un cs tx e im wk) (hz : okZ t T H M cs e) : Ct yX9_count cX9_count 2 (some .int) 9 1 6 [.ref o, .int (nI 7)] n kd I J P (pK o n kd I J P (.inl (some (.int (ctV t rr H M un e 7)))) (CX o t T fp rr H M un cs tx e im wk)) := by
  have hC0 := hC
  have hz0 := hz
  obtain ⟨hX, hsc, hT, hSt, hLf, hIm, hWk, hQc, hPc⟩ := hC
  obtain ⟨okt, oks, okl⟩ := hz
  have hS := hX.S
  have hL := hX.L
  have hat := hX.at
  have hH8 : H ≤ 8 := oks.2.1
  have hM20 : 2 ≤ M ∧ M ≤ 20 := oks.1
  have hH : I b 0 = nI H := hSt.1.1
  have hMo : I b 1 = nI M := hSt.2.1
  obtain ⟨⟨x0, x1, x2⟩, -, ⟨-, -, hLk⟩, ⟨hQ, hA, hG, hW, hRd, hD, hPg⟩, ⟨p0, p3, p8, p10, p12, p13, p14, p15, p16, p17⟩, ⟨p4, p5, p6, p7⟩, -, -, -⟩ := id hX
  have hc := c_count_7 (n := n) (I := I) (J := J) o b f x0 hS.1 hL.1 x2 p4 p6 p3
  rw [show I (o + 2) 1 = ctV t rr H M un e 7 from (hT.2.2.2 1 (by decide))] at hc
  exact hc.mono (fun _ _ _ _ _ _ hx => pK.is hC0 hx)

set_option maxHeartbeats 4000000 in
set_option maxRecDepth 100000 in
theorem q_count_7 (m : Nat) {t : Nat} {T : Nat → Nat} {fp : Int32} {rr : Nat → Int32} {H M : Nat} {un : Bool} {cs : Nat → List Nat} {tx : Nat → List Int32} {e : Lf} {im : Option Lf} {wk : Option (List Nat)} {n : Nat} {kd : mK} {I : mI} {J : mJ} {P : mP} (hC : RR m kd I P t T fp rr H M un cs tx e im wk) (hz : okZ t T H M cs e) : Ct yX10_count cX10_count 2 (some .int) 3 0 0 [.ref m, .int (nI 7)] n kd I J P (pQ m n kd I J P (some (.int (ctV t rr H M un e 7))) 0 (RX m t T fp rr H M un cs tx e im wk)) := by
  have hC0 := hC
  obtain ⟨hM, hT, hSt, hLf, hIm, hWk⟩ := hC
  obtain ⟨okt, oks, okl⟩ := hz
  have hH8 : H ≤ 8 := oks.2.1
  have hM20 : 2 ≤ M ∧ M ≤ 20 := oks.1
  have hH : I m 1 = nI H := hSt.1.1
  have hMo : I m 2 = nI M := hSt.1.2.1
  have hc := c_countR_7 (n := n) (I := I) (J := J) m hM
  rw [show I (m + 12) 1 = ctV t rr H M un e 7 from (hT.2.2.2 1 (by decide))] at hc
  exact hc.mono (fun _ _ _ _ _ _ hx => pQ.th hC0 hx)

set_option maxHeartbeats 4000000 in
set_option maxRecDepth 100000 in
theorem k_count_8 (o b s f l : Nat) {t : Nat} {T : Nat → Nat} {fp : Int32} {rr : Nat → Int32} {H M : Nat} {un : Bool} {cs : Nat → List Nat} {tx : Nat → List Int32} {e : Lf} {im : Option Lf} {wk : Option (List Nat)} {n : Nat} {kd : mK} {I : mI} {J : mJ} {P : mP} (hC : CR o b s f l n kd I J P t T fp rr H M un cs tx e im wk) (hz : okZ t T H M cs e) : Ct yX9_count cX9_count 2 (some .int) 9 1 6 [.ref o, .int (nI 8)] n kd I J P (pK o n kd I J P (.inl (some (.int (ctV t rr H M un e 8)))) (CX o t T fp rr H M un cs tx e im wk)) := by
  have hC0 := hC
  have hz0 := hz
  obtain ⟨hX, hsc, hT, hSt, hLf, hIm, hWk, hQc, hPc⟩ := hC
  obtain ⟨okt, oks, okl⟩ := hz
  have hS := hX.S
  have hL := hX.L
  have hat := hX.at
  have hH8 : H ≤ 8 := oks.2.1
  have hM20 : 2 ≤ M ∧ M ≤ 20 := oks.1
  have hH : I b 0 = nI H := hSt.1.1
  have hMo : I b 1 = nI M := hSt.2.1
  obtain ⟨⟨x0, x1, x2⟩, -, ⟨-, -, hLk⟩, ⟨hQ, hA, hG, hW, hRd, hD, hPg⟩, ⟨p0, p3, p8, p10, p12, p13, p14, p15, p16, p17⟩, ⟨p4, p5, p6, p7⟩, -, -, -⟩ := id hX
  have hc := c_count_8 (n := n) (I := I) (J := J) o b f x0 hS.1 hL.1 x2 p4 p6 p3
  rw [show I (o + 2) 2 = ctV t rr H M un e 8 from (hT.2.2.2 2 (by decide))] at hc
  exact hc.mono (fun _ _ _ _ _ _ hx => pK.is hC0 hx)

set_option maxHeartbeats 4000000 in
set_option maxRecDepth 100000 in
theorem q_count_8 (m : Nat) {t : Nat} {T : Nat → Nat} {fp : Int32} {rr : Nat → Int32} {H M : Nat} {un : Bool} {cs : Nat → List Nat} {tx : Nat → List Int32} {e : Lf} {im : Option Lf} {wk : Option (List Nat)} {n : Nat} {kd : mK} {I : mI} {J : mJ} {P : mP} (hC : RR m kd I P t T fp rr H M un cs tx e im wk) (hz : okZ t T H M cs e) : Ct yX10_count cX10_count 2 (some .int) 3 0 0 [.ref m, .int (nI 8)] n kd I J P (pQ m n kd I J P (some (.int (ctV t rr H M un e 8))) 0 (RX m t T fp rr H M un cs tx e im wk)) := by
  have hC0 := hC
  obtain ⟨hM, hT, hSt, hLf, hIm, hWk⟩ := hC
  obtain ⟨okt, oks, okl⟩ := hz
  have hH8 : H ≤ 8 := oks.2.1
  have hM20 : 2 ≤ M ∧ M ≤ 20 := oks.1
  have hH : I m 1 = nI H := hSt.1.1
  have hMo : I m 2 = nI M := hSt.1.2.1
  have hc := c_countR_8 (n := n) (I := I) (J := J) m hM
  rw [show I (m + 12) 2 = ctV t rr H M un e 8 from (hT.2.2.2 2 (by decide))] at hc
  exact hc.mono (fun _ _ _ _ _ _ hx => pQ.th hC0 hx)

set_option maxHeartbeats 4000000 in
set_option maxRecDepth 100000 in
theorem q_fault (m : Nat) {t : Nat} {T : Nat → Nat} {fp : Int32} {rr : Nat → Int32} {H M : Nat} {un : Bool} {cs : Nat → List Nat} {tx : Nat → List Int32} {e : Lf} {im : Option Lf} {wk : Option (List Nat)} {n : Nat} {kd : mK} {I : mI} {J : mJ} {P : mP} (hC : RR m kd I P t T fp rr H M un cs tx e im wk) (hz : okZ t T H M cs e) : Ct yX10_fault cX10_fault 1 (some .int) 10 0 0 [.ref m] n kd I J P (pQ m n kd I J P (some (.int (fp))) 0 (RX m t T fp rr H M un cs tx e im wk)) := by
  refine ct_of 0 (by decide +kernel) (Nat.le_of_ble_eq_true rfl) rfl ?_
  refine r_aload_n dX10_fault_0 rfl ?_
  refine r_iconst (v := nI 0) dX10_fault_1 (by decide) ?_
  refine r_putI dX10_fault_2 fl_X10_193 rfl rfl (kM_0 hC.1) ?_
  refine q_th hC (fun I hC h0 => ?_)
  have hC0 := hC
  have hz0 := hz
  obtain ⟨hM, hT, hSt, hLf, hIm, hWk⟩ := hC
  obtain ⟨okt, oks, okl⟩ := hz
  have hH8 : H ≤ 8 := oks.2.1
  have hM20 : 2 ≤ M ∧ M ≤ 20 := oks.1
  have hH : I m 1 = nI H := hSt.1.1
  have hMo : I m 2 = nI M := hSt.1.2.1
  refine r_aload_n dX10_fault_5 rfl ?_
  refine r_getI dX10_fault_6 fl_X10_47 rfl (kM_0 hM) ?_
  rw [hT.2.2.1]
  refine r_iret rfl dX10_fault_9 ?_
  exact RR.same h0 hC0

/-- a tape's new bytes: four of a number -/
def byN (v : Int32) (s : Nat) : Nat := (tb2 v s).toBitVec.toNat
theorem byN_lt {v : Int32} {s : Nat} : byN v s < 256 ∧ tb2 v s = nI (byN v s) := by
  obtain ⟨j, h1, h2⟩ := pk_andE (v >>> (nI s &&& 31)) (m := nI 255) 8 (by decide)
  have h3 : tb2 v s = nI j := h2
  have h4 : byN v s = j := by unfold byN; rw [h3]; exact pk_tn (by omega)
  rw [h4]
  exact ⟨h1, h3⟩
theorem tb_by {v : Int32} {s : Nat} : tb v s = sBy (byN v s) := by
  unfold sBy
  rw [← byN_lt.2]
  unfold tb tb2
  rw [Int32.toInt8_and, show (nI 255).toInt8 = -1 from by decide, Int8.and_neg_one]
def tpN (v : Int32) (t : Nat) (T : Nat → Nat) : Nat → Nat := va_up (va_up (va_up (va_up T t (byN v 24)) (t + 1) (byN v 16)) (t + 2) (byN v 8)) (t + 3) (byN v 0)
theorem tp_of {f : Int32 → Nat → Int32} {F : Nat → Int32} {v : Int32} {t : Nat} {T : Nat → Nat} {row : Nat → Int32} (hf : ∀ s, f v s = F (byN v s)) (h : ∀ j, j < t → row j = F (T j)) : ∀ j, j < t + 4 → tp4 f v t row j = F (tpN v t T j) := by
  intro j hj
  unfold tp4 tpN
  rcases (show j = t + 3 ∨ j = t + 2 ∨ j = t + 1 ∨ j = t ∨ j < t by omega) with q | q | q | q | q
  · subst q; simp (disch := omega) only [am_up_s, am_up_n, hf]
  · subst q; simp (disch := omega) only [am_up_s, am_up_n, hf]
  · subst q; simp (disch := omega) only [am_up_s, am_up_n, hf]
  · subst q; simp (disch := omega) only [am_up_s, am_up_n, hf]
  · simp (disch := omega) only [am_up_n]; exact h j q
theorem tpN_lt {v : Int32} {t : Nat} {T : Nat → Nat} (h : ∀ j, j < t → T j < 256) : ∀ j, j < t + 4 → tpN v t T j < 256 := by
  intro j hj
  unfold tpN
  rcases (show j = t + 3 ∨ j = t + 2 ∨ j = t + 1 ∨ j = t ∨ j < t by omega) with q | q | q | q | q
  · subst q; simp (disch := omega) only [am_up_s, am_up_n]; exact byN_lt.1
  · subst q; simp (disch := omega) only [am_up_s, am_up_n]; exact byN_lt.1
  · subst q; simp (disch := omega) only [am_up_s, am_up_n]; exact byN_lt.1
  · subst q; simp (disch := omega) only [am_up_s, am_up_n]; exact byN_lt.1
  · simp (disch := omega) only [am_up_n]; exact h j q
/-- the tape after twenty bytes -/
def fdT (v1 v2 v3 v4 v5 : Int32) (t : Nat) (T : Nat → Nat) : Nat → Nat := tpN v5 (t + 16) (tpN v4 (t + 12) (tpN v3 (t + 8) (tpN v2 (t + 4) (tpN v1 t T))))
theorem okT_fd {v1 v2 v3 v4 v5 : Int32} {t : Nat} {T : Nat → Nat} (ht : t + 20 ≤ 500) (h : okT t T) : okT (t + 20) (fdT v1 v2 v3 v4 v5 t T) := ⟨ht, tpN_lt (tpN_lt (tpN_lt (tpN_lt (tpN_lt h.2))))⟩
set_option maxHeartbeats 4000000 in
set_option maxRecDepth 100000 in
theorem k_feed (o b s f l : Nat) (v1 v2 v3 v4 v5 : Int32) {t : Nat} {T : Nat → Nat} {fp : Int32} {rr : Nat → Int32} {H M : Nat} {un : Bool} {cs : Nat → List Nat} {tx : Nat → List Int32} {e : Lf} {im : Option Lf} {wk : Option (List Nat)} {n : Nat} {kd : mK} {I : mI} {J : mJ} {P : mP} (hC : CR o b s f l n kd I J P t T fp rr H M un cs tx e im wk) (hz : okZ t T H M cs e) (ht : t + 20 ≤ 500) : Ct yX9_feed cX9_feed 6 (some .int) 2 0 0 [.ref o, .int v1, .int v2, .int v3, .int v4, .int v5] n kd I J P (pK o n kd I J P (.inl (some (.int (nI (t + 20))))) (CX o (t + 20) (fdT v1 v2 v3 v4 v5 t T) fp rr H M un cs tx e im wk)) := by
  have hC0 := hC
  have hz0 := hz
  obtain ⟨hX, hsc, hT, hSt, hLf, hIm, hWk, hQc, hPc⟩ := hC
  obtain ⟨okt, oks, okl⟩ := hz
  have hS := hX.S
  have hL := hX.L
  have hat := hX.at
  have hH8 : H ≤ 8 := oks.2.1
  have hM20 : 2 ≤ M ∧ M ≤ 20 := oks.1
  have hH : I b 0 = nI H := hSt.1.1
  have hMo : I b 1 = nI M := hSt.2.1
  obtain ⟨⟨x0, x1, x2⟩, -, ⟨-, -, hLk⟩, ⟨hQ, hA, hG, hW, hRd, hD, hPg⟩, ⟨p0, p3, p8, p10, p12, p13, p14, p15, p16, p17⟩, ⟨p4, p5, p6, p7⟩, -, -, -⟩ := id hX
  refine (c_X9_feed (n := n) (I := I) (J := J) o t v1 v2 v3 v4 v5 x0 x1 p0 hT.1 ht).mono ?_
  rintro y n' kd' I' J' P' ⟨h0, rfl, rfl, rfl, rfl, rfl⟩
  have hk : ∀ a, a ≠ o → a ≠ o + 1 → tpI o (o + 1) 1 (t + 20) (tp4 tb v5 (t + 16) (tp4 tb v4 (t + 12) (tp4 tb v3 (t + 8) (tp4 tb v2 (t + 4) (tp4 tb v1 (t) (I (o + 1))))))) I a = I a := fun a a1 a2 => by unfold tpI; rw [am_up_n _ _ a1, am_up_n _ _ a2]
  have ho : ∀ j, j ≠ 1 → tpI o (o + 1) 1 (t + 20) (tp4 tb v5 (t + 16) (tp4 tb v4 (t + 12) (tp4 tb v3 (t + 8) (tp4 tb v2 (t + 4) (tp4 tb v1 (t) (I (o + 1))))))) I o j = I o j := fun j j1 => by unfold tpI; rw [am_up_s, am_up_n _ _ j1]
  refine ⟨h0, ⟨Nat.le_refl _, Nat.le_succ _⟩, fun q => q, fun a a1 a2 => ⟨rfl, hk a (by omega) (by omega), rfl, rfl⟩, b, s, f, l, hX, hsc, ⟨?_, ?_, by rw [ho 2 (by decide)]; exact hT.2.2.1, fun j hj => by rw [hk _ (by omega) (by omega)]; exact hT.2.2.2 j hj⟩, hSt.cg (fun a x y => hk a (by omega) (by omega)), hLf.cg (fun a x y => hk a (by omega) (by omega)), hIm.cg (ho 9 (by decide)) (fun a x y => hk a (by omega) (by omega)), hWk.cg (hk _ (by omega) (by omega)) (hk _ (by omega) (by omega)), hQc.cg (ho 11 (by decide)) (hk _ (by omega) (by omega)) (hk _ (by omega) (by omega)) rfl, hPc.cg (ho 18 (by decide)) (hk _ (by omega) (by omega)) (hk _ (by omega) (by omega))⟩
  · unfold tpI; rw [am_up_s, am_up_s]
  · intro j hj
    unfold tpI fdT
    rw [am_up_n _ _ (by omega), am_up_s]
    exact tp_of (fun _ => tb_by) (tp_of (fun _ => tb_by) (tp_of (fun _ => tb_by) (tp_of (fun _ => tb_by) (tp_of (fun _ => tb_by) hT.2.1)))) j hj

set_option maxHeartbeats 4000000 in
set_option maxRecDepth 100000 in
theorem k_feed_no (o b s f l : Nat) (v1 v2 v3 v4 v5 : Int32) {t : Nat} {T : Nat → Nat} {fp : Int32} {rr : Nat → Int32} {H M : Nat} {un : Bool} {cs : Nat → List Nat} {tx : Nat → List Int32} {e : Lf} {im : Option Lf} {wk : Option (List Nat)} {n : Nat} {kd : mK} {I : mI} {J : mJ} {P : mP} (hC : CR o b s f l n kd I J P t T fp rr H M un cs tx e im wk) (hz : okZ t T H M cs e) (ht : ¬ t + 20 ≤ 500) : Ct yX9_feed cX9_feed 6 (some .int) 2 0 0 [.ref o, .int v1, .int v2, .int v3, .int v4, .int v5] n kd I J P (pK o n kd I J P (.inl (some (.int (-1)))) (CX o t T fp rr H M un cs tx e im wk)) := by
  have hC0 := hC
  have hz0 := hz
  obtain ⟨hX, hsc, hT, hSt, hLf, hIm, hWk, hQc, hPc⟩ := hC
  obtain ⟨okt, oks, okl⟩ := hz
  have hS := hX.S
  have hL := hX.L
  have hat := hX.at
  have hH8 : H ≤ 8 := oks.2.1
  have hM20 : 2 ≤ M ∧ M ≤ 20 := oks.1
  have hH : I b 0 = nI H := hSt.1.1
  have hMo : I b 1 = nI M := hSt.2.1
  obtain ⟨⟨x0, x1, x2⟩, -, ⟨-, -, hLk⟩, ⟨hQ, hA, hG, hW, hRd, hD, hPg⟩, ⟨p0, p3, p8, p10, p12, p13, p14, p15, p16, p17⟩, ⟨p4, p5, p6, p7⟩, -, -, -⟩ := id hX
  have ht5 := okt.1
  refine ct_of 0 (by decide +kernel) (Nat.le_of_ble_eq_true rfl) rfl ?_
  refine r_aload_n dX9_feed_0 rfl ?_
  refine r_getI dX9_feed_1 fl_X9_13 rfl x0 ?_
  rw [hT.1]
  refine r_bipush (v := nI 20) dX9_feed_4 (by decide) ?_
  refine r_iadd dX9_feed_6 ?_
  rw [nI_add]
  refine r_sipush (v := nI 500) dX9_feed_7 (by decide) ?_
  refine r_icmp_le (tgt := 15) dX9_feed_10 (by decide) (fun hz => absurd hz (show ¬ _ from (by rw [nI_leI (by omega) (by omega)]; omega))) (fun _ => ?_)
  refine r_iconst (v := (-1)) dX9_feed_13 (by decide) ?_
  refine r_iret rfl dX9_feed_14 ?_
  exact pK.is hC0 am_is.mk

set_option maxHeartbeats 4000000 in
set_option maxRecDepth 100000 in
theorem q_feed (m : Nat) (v1 v2 v3 v4 v5 : Int32) {t : Nat} {T : Nat → Nat} {fp : Int32} {rr : Nat → Int32} {H M : Nat} {un : Bool} {cs : Nat → List Nat} {tx : Nat → List Int32} {e : Lf} {im : Option Lf} {wk : Option (List Nat)} {n : Nat} {kd : mK} {I : mI} {J : mJ} {P : mP} (hC : RR m kd I P t T fp rr H M un cs tx e im wk) (hz : okZ t T H M cs e) (ht : t + 20 ≤ 500) : Ct yX10_feed cX10_feed 6 (some .int) 2 0 0 [.ref m, .int v1, .int v2, .int v3, .int v4, .int v5] n kd I J P (pQ m n kd I J P (some (.int (nI (t + 20)))) 0 (RX m (t + 20) (fdT v1 v2 v3 v4 v5 t T) fp rr H M un cs tx e im wk)) := by
  have hC0 := hC
  obtain ⟨hM, hT, hSt, hLf, hIm, hWk⟩ := hC
  obtain ⟨okt, oks, okl⟩ := hz
  have hH8 : H ≤ 8 := oks.2.1
  have hM20 : 2 ≤ M ∧ M ≤ 20 := oks.1
  have hH : I m 1 = nI H := hSt.1.1
  have hMo : I m 2 = nI M := hSt.1.2.1
  refine (c_X10_feed (n := n) (I := I) (J := J) m t v1 v2 v3 v4 v5 hM hT.1 ht).mono ?_
  rintro y n' kd' I' J' P' ⟨h0, rfl, rfl, rfl, rfl, rfl⟩
  have hk : ∀ a, a ≠ m → a ≠ m + 11 → tpI m (m + 11) 15 (t + 20) (tp4 tb2 v5 (t + 16) (tp4 tb2 v4 (t + 12) (tp4 tb2 v3 (t + 8) (tp4 tb2 v2 (t + 4) (tp4 tb2 v1 (t) (I (m + 11))))))) (va_up I m (va_up (I m) 0 (nI 0))) a = I a := fun a a1 a2 => by unfold tpI; rw [am_up_n _ _ a1, am_up_n _ _ a2, am_up_n _ _ a1]
  have ho : ∀ j, j ≠ 15 → j ≠ 0 → tpI m (m + 11) 15 (t + 20) (tp4 tb2 v5 (t + 16) (tp4 tb2 v4 (t + 12) (tp4 tb2 v3 (t + 8) (tp4 tb2 v2 (t + 4) (tp4 tb2 v1 (t) (I (m + 11))))))) (va_up I m (va_up (I m) 0 (nI 0))) m j = I m j := fun j j1 j2 => by unfold tpI; rw [am_up_s, am_up_n _ _ j1, am_up_s, am_up_n _ _ j2]
  refine ⟨h0, rfl, rfl, rfl, fun a ha => ⟨hk a (by omega) (by omega), rfl⟩, ?_, hM, ⟨?_, ?_, by rw [ho 17 (by decide) (by decide)]; exact hT.2.2.1, fun j hj => by rw [hk _ (by omega) (by omega)]; exact hT.2.2.2 j hj⟩, hSt.cg (fun j hj => ho j (by omega) (by omega)) (fun a ha => hk a (by omega) (by omega)), rLx.cg (hk _ (by omega) (by omega)) (hk _ (by omega) (by omega)) (hk _ (by omega) (by omega)) (hk _ (by omega) (by omega)) (hk _ (by omega) (by omega)) (ho _ (by decide) (by decide)) (ho _ (by decide) (by decide)) hLf, hIm.cg (ho _ (by decide) (by decide)) (ho _ (by decide) (by decide)) (ho _ (by decide) (by decide)) (fun a x y => hk a (by omega) (by omega)), hWk.cg (ho _ (by decide) (by decide)) (hk _ (by omega) (by omega))⟩
  · unfold tpI; rw [am_up_s, am_up_n _ _ (by decide), am_up_s, am_up_s]
  · unfold tpI; rw [am_up_s, am_up_s]
  · intro j hj
    unfold tpI fdT
    rw [am_up_n _ _ (by omega), am_up_s]
    exact tp_of (fun _ => byN_lt.2) (tp_of (fun _ => byN_lt.2) (tp_of (fun _ => byN_lt.2) (tp_of (fun _ => byN_lt.2) (tp_of (fun _ => byN_lt.2) hT.2.1)))) j hj

set_option maxHeartbeats 4000000 in
set_option maxRecDepth 100000 in
theorem q_feed_no (m : Nat) (v1 v2 v3 v4 v5 : Int32) {t : Nat} {T : Nat → Nat} {fp : Int32} {rr : Nat → Int32} {H M : Nat} {un : Bool} {cs : Nat → List Nat} {tx : Nat → List Int32} {e : Lf} {im : Option Lf} {wk : Option (List Nat)} {n : Nat} {kd : mK} {I : mI} {J : mJ} {P : mP} (hC : RR m kd I P t T fp rr H M un cs tx e im wk) (hz : okZ t T H M cs e) (ht : ¬ t + 20 ≤ 500) : Ct yX10_feed cX10_feed 6 (some .int) 10 0 0 [.ref m, .int v1, .int v2, .int v3, .int v4, .int v5] n kd I J P (pQ m n kd I J P (some (.int (-1))) 0 (RX m t T fp rr H M un cs tx e im wk)) := by
  refine ct_of 0 (by decide +kernel) (Nat.le_of_ble_eq_true rfl) rfl ?_
  refine r_aload_n dX10_feed_0 rfl ?_
  refine r_iconst (v := nI 0) dX10_feed_1 (by decide) ?_
  refine r_putI dX10_feed_2 fl_X10_193 rfl rfl (kM_0 hC.1) ?_
  refine q_th hC (fun I hC h0 => ?_)
  have hC0 := hC
  have hz0 := hz
  obtain ⟨hM, hT, hSt, hLf, hIm, hWk⟩ := hC
  obtain ⟨okt, oks, okl⟩ := hz
  have hH8 : H ≤ 8 := oks.2.1
  have hM20 : 2 ≤ M ∧ M ≤ 20 := oks.1
  have hH : I m 1 = nI H := hSt.1.1
  have hMo : I m 2 = nI M := hSt.1.2.1
  have ht5 := okt.1
  refine r_aload_n dX10_feed_5 rfl ?_
  refine r_getI dX10_feed_6 fl_X10_196 rfl (kM_0 hM) ?_
  rw [hT.1]
  refine r_bipush (v := nI 20) dX10_feed_9 (by decide) ?_
  refine r_iadd dX10_feed_11 ?_
  rw [nI_add]
  refine r_sipush (v := nI 500) dX10_feed_12 (by decide) ?_
  refine r_icmp_le (tgt := 20) dX10_feed_15 (by decide) (fun hz => absurd hz (show ¬ _ from (by rw [nI_leI (by omega) (by omega)]; omega))) (fun _ => ?_)
  refine r_iconst (v := (-1)) dX10_feed_18 (by decide) ?_
  refine r_iret rfl dX10_feed_19 ?_
  exact RR.same h0 hC0

set_option maxHeartbeats 4000000 in
set_option maxRecDepth 100000 in
theorem k_undo_no (o b s f l : Nat) {t : Nat} {T : Nat → Nat} {fp : Int32} {rr : Nat → Int32} {H M : Nat} {un : Bool} {cs : Nat → List Nat} {tx : Nat → List Int32} {e : Lf} {im : Option Lf} {wk : Option (List Nat)} {n : Nat} {kd : mK} {I : mI} {J : mJ} {P : mP} (hC : CR o b s f l n kd I J P t T fp rr H M un cs tx e im wk) (hz : okZ t T H M cs e) (hne : e.2.2.2.1 = []) : Ct yX9_undo cX9_undo 1 (some .int) 9 1 6 [.ref o] n kd I J P (pK o n kd I J P (.inl (some (.int (-1)))) (CX o t T fp rr H M un cs tx e im wk)) := by
  have hC0 := hC
  have hz0 := hz
  obtain ⟨hX, hsc, hT, hSt, hLf, hIm, hWk, hQc, hPc⟩ := hC
  obtain ⟨okt, oks, okl⟩ := hz
  have hS := hX.S
  have hL := hX.L
  have hat := hX.at
  have hH8 : H ≤ 8 := oks.2.1
  have hM20 : 2 ≤ M ∧ M ≤ 20 := oks.1
  have hH : I b 0 = nI H := hSt.1.1
  have hMo : I b 1 = nI M := hSt.2.1
  obtain ⟨⟨x0, x1, x2⟩, -, ⟨-, -, hLk⟩, ⟨hQ, hA, hG, hW, hRd, hD, hPg⟩, ⟨p0, p3, p8, p10, p12, p13, p14, p15, p16, p17⟩, ⟨p4, p5, p6, p7⟩, -, -, -⟩ := id hX
  exact (n_X9_undo (n := n) (I := I) (J := J) o f x0 hL.1 p6 (by rw [hLf.2.2.1.1, hne]; rfl)).mono (fun _ _ _ _ _ _ hx => pK.is hC0 hx)

set_option maxHeartbeats 4000000 in
set_option maxRecDepth 100000 in
theorem q_undo_no (m : Nat) {t : Nat} {T : Nat → Nat} {fp : Int32} {rr : Nat → Int32} {H M : Nat} {un : Bool} {cs : Nat → List Nat} {tx : Nat → List Int32} {e : Lf} {im : Option Lf} {wk : Option (List Nat)} {n : Nat} {kd : mK} {I : mI} {J : mJ} {P : mP} (hC : RR m kd I P t T fp rr H M un cs tx e im wk) (hz : okZ t T H M cs e) (hne : e.2.2.2.1 = []) : Ct yX10_undo cX10_undo 1 (some .int) 3 0 0 [.ref m] n kd I J P (pQ m n kd I J P (some (.int (-1))) 0 (RX m t T fp rr H M un cs tx e im wk)) := by
  have hC0 := hC
  obtain ⟨hM, hT, hSt, hLf, hIm, hWk⟩ := hC
  obtain ⟨okt, oks, okl⟩ := hz
  have hH8 : H ≤ 8 := oks.2.1
  have hM20 : 2 ≤ M ∧ M ≤ 20 := oks.1
  have hH : I m 1 = nI H := hSt.1.1
  have hMo : I m 2 = nI M := hSt.1.2.1
  exact (n_X10_undo (n := n) (I := I) (J := J) m hM (by rw [hLf.2.1.1, hne]; rfl)).mono (fun _ _ _ _ _ _ hx => pQ.th hC0 hx)

set_option maxHeartbeats 4000000 in
set_option maxRecDepth 100000 in
theorem k_unletter_no (o b s f l : Nat) {t : Nat} {T : Nat → Nat} {fp : Int32} {rr : Nat → Int32} {H M : Nat} {un : Bool} {cs : Nat → List Nat} {tx : Nat → List Int32} {e : Lf} {im : Option Lf} {wk : Option (List Nat)} {n : Nat} {kd : mK} {I : mI} {J : mJ} {P : mP} (hC : CR o b s f l n kd I J P t T fp rr H M un cs tx e im wk) (hz : okZ t T H M cs e) (hne : e.2.2.2.2 = []) : Ct yX9_unletter cX9_unletter 1 (some .int) 9 1 6 [.ref o] n kd I J P (pK o n kd I J P (.inl (some (.int (-1)))) (CX o t T fp rr H M un cs tx e im wk)) := by
  have hC0 := hC
  have hz0 := hz
  obtain ⟨hX, hsc, hT, hSt, hLf, hIm, hWk, hQc, hPc⟩ := hC
  obtain ⟨okt, oks, okl⟩ := hz
  have hS := hX.S
  have hL := hX.L
  have hat := hX.at
  have hH8 : H ≤ 8 := oks.2.1
  have hM20 : 2 ≤ M ∧ M ≤ 20 := oks.1
  have hH : I b 0 = nI H := hSt.1.1
  have hMo : I b 1 = nI M := hSt.2.1
  obtain ⟨⟨x0, x1, x2⟩, -, ⟨-, -, hLk⟩, ⟨hQ, hA, hG, hW, hRd, hD, hPg⟩, ⟨p0, p3, p8, p10, p12, p13, p14, p15, p16, p17⟩, ⟨p4, p5, p6, p7⟩, -, -, -⟩ := id hX
  exact (n_X9_unletter (n := n) (I := I) (J := J) o f x0 hL.1 p6 (by rw [hLf.2.2.2.1, hne]; rfl)).mono (fun _ _ _ _ _ _ hx => pK.is hC0 hx)

set_option maxHeartbeats 4000000 in
set_option maxRecDepth 100000 in
theorem q_unletter_no (m : Nat) {t : Nat} {T : Nat → Nat} {fp : Int32} {rr : Nat → Int32} {H M : Nat} {un : Bool} {cs : Nat → List Nat} {tx : Nat → List Int32} {e : Lf} {im : Option Lf} {wk : Option (List Nat)} {n : Nat} {kd : mK} {I : mI} {J : mJ} {P : mP} (hC : RR m kd I P t T fp rr H M un cs tx e im wk) (hz : okZ t T H M cs e) (hne : e.2.2.2.2 = []) : Ct yX10_unletter cX10_unletter 1 (some .int) 3 0 0 [.ref m] n kd I J P (pQ m n kd I J P (some (.int (-1))) 0 (RX m t T fp rr H M un cs tx e im wk)) := by
  have hC0 := hC
  obtain ⟨hM, hT, hSt, hLf, hIm, hWk⟩ := hC
  obtain ⟨okt, oks, okl⟩ := hz
  have hH8 : H ≤ 8 := oks.2.1
  have hM20 : 2 ≤ M ∧ M ≤ 20 := oks.1
  have hH : I m 1 = nI H := hSt.1.1
  have hMo : I m 2 = nI M := hSt.1.2.1
  exact (n_X10_unletter (n := n) (I := I) (J := J) m hM (by rw [hLf.2.2.1, hne]; rfl)).mono (fun _ _ _ _ _ _ hx => pQ.th hC0 hx)

set_option maxHeartbeats 4000000 in
set_option maxRecDepth 100000 in
theorem k_restore_no (o b s f l : Nat) {t : Nat} {T : Nat → Nat} {fp : Int32} {rr : Nat → Int32} {H M : Nat} {un : Bool} {cs : Nat → List Nat} {tx : Nat → List Int32} {e : Lf} {wk : Option (List Nat)} {n : Nat} {kd : mK} {I : mI} {J : mJ} {P : mP} (hC : CR o b s f l n kd I J P t T fp rr H M un cs tx e none wk) (hz : okZ t T H M cs e) : Ct yX9_restore cX9_restore 1 (some .boolean) 9 1 6 [.ref o] n kd I J P (pK o n kd I J P (.inl (some (.int (nI 0)))) (CX o t T fp rr H M un cs tx e none wk)) := by
  have hC0 := hC
  have hz0 := hz
  obtain ⟨hX, hsc, hT, hSt, hLf, hIm, hWk, hQc, hPc⟩ := hC
  obtain ⟨okt, oks, okl⟩ := hz
  have hS := hX.S
  have hL := hX.L
  have hat := hX.at
  have hH8 : H ≤ 8 := oks.2.1
  have hM20 : 2 ≤ M ∧ M ≤ 20 := oks.1
  have hH : I b 0 = nI H := hSt.1.1
  have hMo : I b 1 = nI M := hSt.2.1
  obtain ⟨⟨x0, x1, x2⟩, -, ⟨-, -, hLk⟩, ⟨hQ, hA, hG, hW, hRd, hD, hPg⟩, ⟨p0, p3, p8, p10, p12, p13, p14, p15, p16, p17⟩, ⟨p4, p5, p6, p7⟩, -, -, -⟩ := id hX
  exact (n_X9_restore (n := n) (I := I) (J := J) o x0 hIm).mono (fun _ _ _ _ _ _ hx => pK.is hC0 hx)

set_option maxHeartbeats 4000000 in
set_option maxRecDepth 100000 in
theorem q_restore_no (m : Nat) {t : Nat} {T : Nat → Nat} {fp : Int32} {rr : Nat → Int32} {H M : Nat} {un : Bool} {cs : Nat → List Nat} {tx : Nat → List Int32} {e : Lf} {wk : Option (List Nat)} {n : Nat} {kd : mK} {I : mI} {J : mJ} {P : mP} (hC : RR m kd I P t T fp rr H M un cs tx e none wk) (hz : okZ t T H M cs e) : Ct yX10_restore cX10_restore 1 (some .boolean) 3 0 0 [.ref m] n kd I J P (pQ m n kd I J P (some (.int (nI 0))) 0 (RX m t T fp rr H M un cs tx e none wk)) := by
  have hC0 := hC
  obtain ⟨hM, hT, hSt, hLf, hIm, hWk⟩ := hC
  obtain ⟨okt, oks, okl⟩ := hz
  have hH8 : H ≤ 8 := oks.2.1
  have hM20 : 2 ≤ M ∧ M ≤ 20 := oks.1
  have hH : I m 1 = nI H := hSt.1.1
  have hMo : I m 2 = nI M := hSt.1.2.1
  exact (n_X10_restore (n := n) (I := I) (J := J) m hM hIm).mono (fun _ _ _ _ _ _ hx => pQ.th hC0 hx)

set_option maxHeartbeats 4000000 in
set_option maxRecDepth 100000 in
theorem k_door_none (o b s f l : Nat) (x : Int32) {t : Nat} {T : Nat → Nat} {fp : Int32} {rr : Nat → Int32} {H M : Nat} {un : Bool} {cs : Nat → List Nat} {tx : Nat → List Int32} {e : Lf} {im : Option Lf} {n : Nat} {kd : mK} {I : mI} {J : mJ} {P : mP} (hC : CR o b s f l n kd I J P t T fp rr H M un cs tx e im none) (hz : okZ t T H M cs e) : Ct yX9_door cX9_door 2 (some .int) 9 1 6 [.ref o, .int x] n kd I J P (fun z n' kd' I' J' P' => z = .inr "java/util/NoSuchElementException" ∧ n' = n ∧ kd' = kd ∧ I' = I ∧ J' = J ∧ P' = P) := by
  have hC0 := hC
  have hz0 := hz
  obtain ⟨hX, hsc, hT, hSt, hLf, hIm, hWk, hQc, hPc⟩ := hC
  obtain ⟨okt, oks, okl⟩ := hz
  have hS := hX.S
  have hL := hX.L
  have hat := hX.at
  have hH8 : H ≤ 8 := oks.2.1
  have hM20 : 2 ≤ M ∧ M ≤ 20 := oks.1
  have hH : I b 0 = nI H := hSt.1.1
  have hMo : I b 1 = nI M := hSt.2.1
  obtain ⟨⟨x0, x1, x2⟩, -, ⟨-, -, hLk⟩, ⟨hQ, hA, hG, hW, hRd, hD, hPg⟩, ⟨p0, p3, p8, p10, p12, p13, p14, p15, p16, p17⟩, ⟨p4, p5, p6, p7⟩, -, -, -⟩ := id hX
  obtain ⟨w0, w1, w2, v0, v4⟩ := id hW
  exact n_X9_door (n := n) (I := I) (J := J) o x x0 w0 p14 hWk

set_option maxHeartbeats 4000000 in
set_option maxRecDepth 100000 in
theorem q_door_none (m : Nat) (x : Int32) {t : Nat} {T : Nat → Nat} {fp : Int32} {rr : Nat → Int32} {H M : Nat} {un : Bool} {cs : Nat → List Nat} {tx : Nat → List Int32} {e : Lf} {im : Option Lf} {n : Nat} {kd : mK} {I : mI} {J : mJ} {P : mP} (hC : RR m kd I P t T fp rr H M un cs tx e im none) (hz : okZ t T H M cs e) : Ct yX10_door cX10_door 2 (some .int) 3 0 0 [.ref m, .int x] n kd I J P (pQ m n kd I J P (some (.int (nI 0))) 1 (RX m t T fp rr H M un cs tx e im none)) := by
  have hC0 := hC
  obtain ⟨hM, hT, hSt, hLf, hIm, hWk⟩ := hC
  obtain ⟨okt, oks, okl⟩ := hz
  have hH8 : H ≤ 8 := oks.2.1
  have hM20 : 2 ≤ M ∧ M ≤ 20 := oks.1
  have hH : I m 1 = nI H := hSt.1.1
  have hMo : I m 2 = nI M := hSt.1.2.1
  exact (n_X10_door (n := n) (I := I) (J := J) m x hM hWk).mono (fun _ _ _ _ _ _ hx => pQ.th hC0 hx)

set_option maxHeartbeats 4000000 in
set_option maxRecDepth 100000 in
theorem q_undo (m : Nat) {t : Nat} {T : Nat → Nat} {fp : Int32} {rr : Nat → Int32} {H M : Nat} {un : Bool} {cs : Nat → List Nat} {tx : Nat → List Int32} {e : Lf} {im : Option Lf} {wk : Option (List Nat)} {n : Nat} {kd : mK} {I : mI} {J : mJ} {P : mP} (hC : RR m kd I P t T fp rr H M un cs tx e im wk) (hz : okZ t T H M cs e) (hne : e.2.2.2.1 ≠ []) : Ct yX10_undo cX10_undo 1 (some .int) 10 0 0 [.ref m] n kd I J P (pQ m n kd I J P (some (.int (nI (e.2.2.2.1.length - 1)))) 0 (RX m t T fp rr H M un cs tx (bkE e) im wk)) := by
  refine ct_of 0 (by decide +kernel) (Nat.le_of_ble_eq_true rfl) rfl ?_
  refine r_aload_n dX10_undo_0 rfl ?_
  refine r_iconst (v := nI 0) dX10_undo_1 (by decide) ?_
  refine r_putI dX10_undo_2 fl_X10_193 rfl rfl (kM_0 hC.1) ?_
  refine q_th hC (fun I hC h0 => ?_)
  have hC0 := hC
  have hz0 := hz
  obtain ⟨hM, hT, hSt, hLf, hIm, hWk⟩ := hC
  obtain ⟨okt, oks, okl⟩ := hz
  have hH8 : H ≤ 8 := oks.2.1
  have hM20 : 2 ≤ M ∧ M ≤ 20 := oks.1
  have hH : I m 1 = nI H := hSt.1.1
  have hMo : I m 2 = nI M := hSt.1.2.1
  have h4 := hLf.2.1.1
  have ha30 := okl.2.1.1
  have hpos := List.length_pos_iff.mpr hne
  have hla := okl.2.1.2 _ (lastA_in hne)
  have ha : I (m + 23) (3 * (e.2.2.2.1.length - 1)) = nI (lastA e).2.1 ∧ I (m + 23) (3 * (e.2.2.2.1.length - 1) + 1) = nI (lastA e).1 ∧ I (m + 23) (3 * (e.2.2.2.1.length - 1) + 2) = nI (lastA e).2.2 := hLf.2.1.2 _ (by omega)
  refine r_aload_n dX10_undo_5 rfl ?_
  refine r_getI dX10_undo_6 fl_X10_360 rfl (kM_0 hM) ?_
  rw [h4]
  refine r_if_ne (tgt := 14) dX10_undo_9 (by decide) (fun _ => ?_) (fun hz => absurd hz (show ¬ _ from (by rw [z_eq (by omega)]; omega)))
  refine r_aload_n dX10_undo_14 rfl ?_
  refine r_dup dX10_undo_15 rfl ?_
  refine r_getI dX10_undo_16 fl_X10_360 rfl (kM_0 hM) ?_
  rw [h4]
  refine r_iconst (v := nI 1) dX10_undo_19 (by decide) ?_
  refine r_isub dX10_undo_20 ?_
  rw [pk_sub (by omega)]
  refine r_putI dX10_undo_21 fl_X10_360 rfl rfl (kM_0 hM) ?_
  try simp (disch := omega) only [am_up_s, am_up_n, am_up_up]
  refine r_aload_n dX10_undo_24 rfl ?_
  refine r_aload_n dX10_undo_25 rfl ?_
  refine r_getR dX10_undo_26 fl_X10_84 rfl (kM_0 hM) (pM_46 hM) ?_
  refine r_iconst (v := nI 3) dX10_undo_29 (by decide) ?_
  refine r_aload_n dX10_undo_30 rfl ?_
  refine r_getI dX10_undo_31 fl_X10_360 rfl (kM_0 hM) ?_
  rw [am_up_s, am_up_s]
  refine r_imul dX10_undo_34 ?_
  rw [pk_mul]
  refine r_iald dX10_undo_35 (aM_46 hM) (nI_in8 90 (by omega) (by decide)) (nI_clamp (by omega)) ?_
  rw [am_up_n _ _ (by omega), ha.1]
  refine r_aload_n dX10_undo_36 rfl ?_
  refine r_getR dX10_undo_37 fl_X10_84 rfl (kM_0 hM) (pM_46 hM) ?_
  refine r_iconst (v := nI 3) dX10_undo_40 (by decide) ?_
  refine r_aload_n dX10_undo_41 rfl ?_
  refine r_getI dX10_undo_42 fl_X10_360 rfl (kM_0 hM) ?_
  rw [am_up_s, am_up_s]
  refine r_imul dX10_undo_45 ?_
  rw [pk_mul]
  refine r_iconst (v := nI 1) dX10_undo_46 (by decide) ?_
  refine r_iadd dX10_undo_47 ?_
  rw [nI_add]
  refine r_iald dX10_undo_48 (aM_46 hM) (nI_in8 90 (by omega) (by decide)) (nI_clamp (by omega)) ?_
  rw [am_up_n _ _ (by omega), ha.2.1]
  refine r_aload_n dX10_undo_49 rfl ?_
  refine r_getR dX10_undo_50 fl_X10_84 rfl (kM_0 hM) (pM_46 hM) ?_
  refine r_iconst (v := nI 3) dX10_undo_53 (by decide) ?_
  refine r_aload_n dX10_undo_54 rfl ?_
  refine r_getI dX10_undo_55 fl_X10_360 rfl (kM_0 hM) ?_
  rw [am_up_s, am_up_s]
  refine r_imul dX10_undo_58 ?_
  rw [pk_mul]
  refine r_iconst (v := nI 2) dX10_undo_59 (by decide) ?_
  refine r_iadd dX10_undo_60 ?_
  rw [nI_add]
  refine r_iald dX10_undo_61 (aM_46 hM) (nI_in8 90 (by omega) (by decide)) (nI_clamp (by omega)) ?_
  rw [am_up_n _ _ (by omega), ha.2.2]
  refine r_virtE (c_X10_turns m (lastA e).2.1 (lastA e).1 (nI (lastA e).2.2) hM (by omega) hla.1) lk_X10_385 mc_X10_turns dX10_undo_62 (kM_0 hM) (by decide) rfl rfl (Nat.le_of_ble_eq_true rfl) ?_
  refine r_pop dX10_undo_65 rfl ?_
  refine r_aload_n dX10_undo_66 rfl ?_
  refine r_getI dX10_undo_67 fl_X10_360 rfl (kM_0 hM) ?_
  rw [turn_m, am_up_s, am_up_s]
  refine r_iret rfl dX10_undo_70 ?_
  have hrl : rL (va_up I m (va_up (I m) 45 (nI (e.2.2.2.1.length - 1)))) m H (setA e e.2.2.2.1.dropLast) := rL_setA (I := I) (fun a a1 => am_up_n _ _ (by omega)) (by rw [am_up_s, am_up_n _ _ (by decide)]) (by rw [am_up_s, am_up_s, List.length_dropLast]) (fun j hj => by
    rw [List.length_dropLast] at hj
    rw [am_up_n _ _ (by omega), List.getD_eq_getElem?_getD, List.getElem?_dropLast, if_pos (by omega), ← List.getD_eq_getElem?_getD]
    exact hLf.2.1.2 j (by omega)) hLf
  have hr2 := rL_turn (k := (lastA e).1) (h := (lastA e).2.1) (v := (lastA e).2.2) (fun a1 a2 => hla.2.2.2 (by omega)) hrl
  exact ⟨rfl, rfl, rfl, rfl, fun a ha => ⟨by rw [turn_fr (by omega) (by omega) (by omega), am_up_n _ _ (by omega)], rfl⟩, by rw [turn_m, am_up_s, am_up_n _ _ (by decide)]; exact h0, RR.up (I := I) (fun a a1 a2 a3 a4 a5 a6 a7 => by rw [turn_fr a3 a4 a5, am_up_n _ _ (by omega)]) (fun j hj => by rw [turn_m, am_up_s, am_up_n _ _ (by omega)]) hr2 hC0⟩

set_option maxHeartbeats 4000000 in
set_option maxRecDepth 100000 in
theorem q_letter_ref (m : Nat) (h : Nat) (y : Int32) {t : Nat} {T : Nat → Nat} {fp : Int32} {rr : Nat → Int32} {H M : Nat} {un : Bool} {cs : Nat → List Nat} {tx : Nat → List Int32} {e : Lf} {im : Option Lf} {wk : Option (List Nat)} {n : Nat} {kd : mK} {I : mI} {J : mJ} {P : mP} (hC : RR m kd I P t T fp rr H M un cs tx e im wk) (hz : okZ t T H M cs e) (hh : h < H) (hy : (y < nI 1 ∨ nI M < y) ∨ e.2.2.2.2.length = 10) : Ct yX10_letter cX10_letter 3 (some .int) 10 0 0 [.ref m, .int (nI h), .int y] n kd I J P (pQ m n kd I J P (some (.int (-1))) 0 (RX m t T fp (va_up rr 2 (rr 2 + nI 1)) H M un cs tx e im wk)) := by
  refine ct_of 0 (by decide +kernel) (Nat.le_of_ble_eq_true rfl) rfl ?_
  refine r_aload_n dX10_letter_0 rfl ?_
  refine r_iconst (v := nI 0) dX10_letter_1 (by decide) ?_
  refine r_putI dX10_letter_2 fl_X10_193 rfl rfl (kM_0 hC.1) ?_
  refine q_th hC (fun I hC h0 => ?_)
  have hC0 := hC
  have hz0 := hz
  obtain ⟨hM, hT, hSt, hLf, hIm, hWk⟩ := hC
  obtain ⟨okt, oks, okl⟩ := hz
  have hH8 : H ≤ 8 := oks.2.1
  have hM20 : 2 ≤ M ∧ M ≤ 20 := oks.1
  have hH : I m 1 = nI H := hSt.1.1
  have hMo : I m 2 = nI M := hSt.1.2.1
  have hl10 := okl.2.2.1
  by_cases c3 : e.2.2.2.2.length = 10
  · skip
    refine r_aload_n dX10_letter_5 rfl ?_
    refine r_iload_n dX10_letter_6 rfl ?_
    refine r_virtE (c_X10_isHouse m (nI h) hM h0) lk_X10_373 mc_X10_isHouse dX10_letter_7 (kM_0 hM) (by decide) rfl rfl (Nat.le_of_ble_eq_true rfl) ?_
    rw [show (!decide (nI h < 0) && decide (nI h < I m 1)) = true from by rw [hH]; exact (isH_of hh (by omega)), thM_ok]
    refine r_if_ne (tgt := 15) dX10_letter_10 (by decide) (fun _ => ?_) (fun hz => absurd hz (show ¬ _ from (by decide)))
    refine r_aload_n dX10_letter_15 rfl ?_
    refine r_getI dX10_letter_16 fl_X10_363 rfl (kM_0 hM) ?_
    rw [hLf.2.2.1]
    refine r_bipush (v := nI 10) dX10_letter_19 (by decide) ?_
    refine r_icmp_eq (tgt := 36) dX10_letter_21 (by decide) (fun _ => ?_) (fun hz => absurd (show _ from (by rw [c3])) hz)
    refine r_aload_n dX10_letter_36 rfl ?_
    refine r_iconst (v := nI 2) dX10_letter_37 (by decide) ?_
    refine r_virtE (c_X10_refuses m 2 hM (by decide)) lk_X10_382 mc_X10_refuses dX10_letter_38 (kM_0 hM) (by decide) rfl rfl (Nat.le_of_ble_eq_true rfl) ?_
    refine r_iret rfl dX10_letter_41 ?_
    exact ⟨rfl, rfl, rfl, rfl, fun a ha => ⟨am_up_n _ _ (by omega), rfl⟩, by rw [am_up_n _ _ (by omega)]; exact h0, RR.ref (k := 2) (by decide) hC0⟩
  · have c1 := hy.resolve_right c3
    refine r_aload_n dX10_letter_5 rfl ?_
    refine r_iload_n dX10_letter_6 rfl ?_
    refine r_virtE (c_X10_isHouse m (nI h) hM h0) lk_X10_373 mc_X10_isHouse dX10_letter_7 (kM_0 hM) (by decide) rfl rfl (Nat.le_of_ble_eq_true rfl) ?_
    rw [show (!decide (nI h < 0) && decide (nI h < I m 1)) = true from by rw [hH]; exact (isH_of hh (by omega)), thM_ok]
    refine r_if_ne (tgt := 15) dX10_letter_10 (by decide) (fun _ => ?_) (fun hz => absurd hz (show ¬ _ from (by decide)))
    refine r_aload_n dX10_letter_15 rfl ?_
    refine r_getI dX10_letter_16 fl_X10_363 rfl (kM_0 hM) ?_
    rw [hLf.2.2.1]
    refine r_bipush (v := nI 10) dX10_letter_19 (by decide) ?_
    refine r_icmp_eq (tgt := 36) dX10_letter_21 (by decide) (fun hz => absurd hz (show ¬ _ from (by rw [nI_eq (by omega) (by decide)]; exact c3))) (fun _ => ?_)
    refine r_iload_n dX10_letter_24 rfl ?_
    refine r_iconst (v := nI 1) dX10_letter_25 (by decide) ?_
    refine r_aload_n dX10_letter_26 rfl ?_
    refine r_getI dX10_letter_27 fl_X10_7 rfl (kM_0 hM) ?_
    rw [hMo]
    refine r_statE (c_X10_within (y) (nI 1) (nI M)) lk_X10_369 mc_X10_within dX10_letter_30 (by decide) rfl rfl (Nat.le_of_ble_eq_true rfl) ?_
    rw [show (!decide (y < nI 1) && !decide (nI M < y)) = false from wi_no c1]
    refine r_if_ne (tgt := 42) dX10_letter_33 (by decide) (fun hz => absurd (show _ from rfl) hz) (fun _ => ?_)
    refine r_aload_n dX10_letter_36 rfl ?_
    refine r_iconst (v := nI 2) dX10_letter_37 (by decide) ?_
    refine r_virtE (c_X10_refuses m 2 hM (by decide)) lk_X10_382 mc_X10_refuses dX10_letter_38 (kM_0 hM) (by decide) rfl rfl (Nat.le_of_ble_eq_true rfl) ?_
    refine r_iret rfl dX10_letter_41 ?_
    exact ⟨rfl, rfl, rfl, rfl, fun a ha => ⟨am_up_n _ _ (by omega), rfl⟩, by rw [am_up_n _ _ (by omega)]; exact h0, RR.ref (k := 2) (by decide) hC0⟩

set_option maxHeartbeats 4000000 in
set_option maxRecDepth 100000 in
theorem q_letter (m : Nat) (h v : Nat) {t : Nat} {T : Nat → Nat} {fp : Int32} {rr : Nat → Int32} {H M : Nat} {un : Bool} {cs : Nat → List Nat} {tx : Nat → List Int32} {e : Lf} {im : Option Lf} {wk : Option (List Nat)} {n : Nat} {kd : mK} {I : mI} {J : mJ} {P : mP} (hC : RR m kd I P t T fp rr H M un cs tx e im wk) (hz : okZ t T H M cs e) (hh : h < H) (hv1 : 1 ≤ v) (hv : v ≤ M) (hlt : e.2.2.2.2.length < 10) : Ct yX10_letter cX10_letter 3 (some .int) 10 0 0 [.ref m, .int (nI h), .int (nI v)] n kd I J P (pQ m n kd I J P (some (.int (nI (e.2.2.2.2.length + 1)))) 0 (RX m t T fp rr H M un cs tx (setL e (e.2.2.2.2 ++ [(h, v)])) im wk)) := by
  refine ct_of 0 (by decide +kernel) (Nat.le_of_ble_eq_true rfl) rfl ?_
  refine r_aload_n dX10_letter_0 rfl ?_
  refine r_iconst (v := nI 0) dX10_letter_1 (by decide) ?_
  refine r_putI dX10_letter_2 fl_X10_193 rfl rfl (kM_0 hC.1) ?_
  refine q_th hC (fun I hC h0 => ?_)
  have hC0 := hC
  have hz0 := hz
  obtain ⟨hM, hT, hSt, hLf, hIm, hWk⟩ := hC
  obtain ⟨okt, oks, okl⟩ := hz
  have hH8 : H ≤ 8 := oks.2.1
  have hM20 : 2 ≤ M ∧ M ≤ 20 := oks.1
  have hH : I m 1 = nI H := hSt.1.1
  have hMo : I m 2 = nI M := hSt.1.2.1
  refine r_aload_n dX10_letter_5 rfl ?_
  refine r_iload_n dX10_letter_6 rfl ?_
  refine r_virtE (c_X10_isHouse m (nI h) hM h0) lk_X10_373 mc_X10_isHouse dX10_letter_7 (kM_0 hM) (by decide) rfl rfl (Nat.le_of_ble_eq_true rfl) ?_
  rw [show (!decide (nI h < 0) && decide (nI h < I m 1)) = true from by rw [hH]; exact (isH_of hh (by omega)), thM_ok]
  refine r_if_ne (tgt := 15) dX10_letter_10 (by decide) (fun _ => ?_) (fun hz => absurd hz (show ¬ _ from (by decide)))
  refine r_aload_n dX10_letter_15 rfl ?_
  refine r_getI dX10_letter_16 fl_X10_363 rfl (kM_0 hM) ?_
  rw [hLf.2.2.1]
  refine r_bipush (v := nI 10) dX10_letter_19 (by decide) ?_
  refine r_icmp_eq (tgt := 36) dX10_letter_21 (by decide) (fun hz => absurd hz (show ¬ _ from (by rw [nI_eq (by omega) (by decide)]; omega))) (fun _ => ?_)
  refine r_iload_n dX10_letter_24 rfl ?_
  refine r_iconst (v := nI 1) dX10_letter_25 (by decide) ?_
  refine r_aload_n dX10_letter_26 rfl ?_
  refine r_getI dX10_letter_27 fl_X10_7 rfl (kM_0 hM) ?_
  rw [hMo]
  refine r_statE (c_X10_within (nI v) (nI 1) (nI M)) lk_X10_369 mc_X10_within dX10_letter_30 (by decide) rfl rfl (Nat.le_of_ble_eq_true rfl) ?_
  rw [show (!decide (nI v < nI 1) && !decide (nI M < nI v)) = true from wi_of hv1 hv (by omega)]
  refine r_if_ne (tgt := 42) dX10_letter_33 (by decide) (fun _ => ?_) (fun hz => absurd hz (show ¬ _ from (by decide)))
  refine r_aload_n dX10_letter_42 rfl ?_
  refine r_getR dX10_letter_43 fl_X10_87 rfl (kM_0 hM) (pM_48 hM) ?_
  refine r_iconst (v := nI 2) dX10_letter_46 (by decide) ?_
  refine r_aload_n dX10_letter_47 rfl ?_
  refine r_getI dX10_letter_48 fl_X10_363 rfl (kM_0 hM) ?_
  rw [hLf.2.2.1]
  refine r_imul dX10_letter_51 ?_
  rw [pk_mul]
  refine r_iload_n dX10_letter_52 rfl ?_
  refine r_iast dX10_letter_53 (aM_48 hM) (nI_in8 20 (by omega) (by decide)) (nI_clamp (by omega)) ?_
  refine r_aload_n dX10_letter_54 rfl ?_
  refine r_getR dX10_letter_55 fl_X10_87 rfl (kM_0 hM) (pM_48 hM) ?_
  refine r_iconst (v := nI 2) dX10_letter_58 (by decide) ?_
  refine r_aload_n dX10_letter_59 rfl ?_
  refine r_getI dX10_letter_60 fl_X10_363 rfl (kM_0 hM) ?_
  rw [am_up_n _ _ (by omega), hLf.2.2.1]
  refine r_imul dX10_letter_63 ?_
  rw [pk_mul]
  refine r_iconst (v := nI 1) dX10_letter_64 (by decide) ?_
  refine r_iadd dX10_letter_65 ?_
  rw [nI_add]
  refine r_iload_n dX10_letter_66 rfl ?_
  refine r_iast dX10_letter_67 (aM_48 hM) (nI_in8 20 (by omega) (by decide)) (nI_clamp (by omega)) ?_
  refine r_aload_n dX10_letter_68 rfl ?_
  refine r_dup dX10_letter_69 rfl ?_
  refine r_getI dX10_letter_70 fl_X10_363 rfl (kM_0 hM) ?_
  rw [am_up_n _ _ (by omega), am_up_n _ _ (by omega), hLf.2.2.1]
  refine r_iconst (v := nI 1) dX10_letter_73 (by decide) ?_
  refine r_iadd dX10_letter_74 ?_
  rw [nI_add]
  refine r_putI dX10_letter_75 fl_X10_363 rfl rfl (kM_0 hM) ?_
  try simp (disch := omega) only [am_up_s, am_up_n, am_up_up]
  refine r_aload_n dX10_letter_78 rfl ?_
  refine r_getI dX10_letter_79 fl_X10_363 rfl (kM_0 hM) ?_
  rw [am_up_s, am_up_s]
  refine r_iret rfl dX10_letter_82 ?_
  refine ⟨rfl, rfl, rfl, rfl, fun a ha => ⟨by simp (disch := omega) only [am_up_s, am_up_n], rfl⟩, by simp (disch := omega) only [am_up_s, am_up_n]; exact h0, RR.up (I := I) (fun a a1 a2 a3 a4 a5 a6 a7 => by simp (disch := omega) only [am_up_s, am_up_n]) (fun j hj => by simp (disch := omega) only [am_up_s, am_up_n]) ?_ hC0⟩
  refine rL_setL (I := I) (L := e.2.2.2.2 ++ [(h, v)]) (fun a a1 => by simp (disch := omega) only [am_up_s, am_up_n]) (by simp (disch := omega) only [am_up_s, am_up_n]) ?_ (fun j hj => ?_) hLf
  · simp (disch := omega) only [am_up_s, am_up_n]
    rw [List.length_append]
    rfl
  · rw [List.length_append] at hj
    simp only [List.length_singleton] at hj
    simp (disch := omega) only [am_up_s, am_up_n]
    rw [List.getD_eq_getElem?_getD]
    by_cases q : j = e.2.2.2.2.length
    · rw [q, List.getElem?_append_right (Nat.le_refl _)]
      try simp (disch := omega) only [am_up_s, am_up_n]
      simp
    · rw [List.getElem?_append_left (by omega), ← List.getD_eq_getElem?_getD]
      try simp (disch := omega) only [am_up_s, am_up_n]
      exact hLf.2.2.2 j (by omega)

set_option maxHeartbeats 4000000 in
set_option maxRecDepth 100000 in
theorem q_unletter (m : Nat) {t : Nat} {T : Nat → Nat} {fp : Int32} {rr : Nat → Int32} {H M : Nat} {un : Bool} {cs : Nat → List Nat} {tx : Nat → List Int32} {e : Lf} {im : Option Lf} {wk : Option (List Nat)} {n : Nat} {kd : mK} {I : mI} {J : mJ} {P : mP} (hC : RR m kd I P t T fp rr H M un cs tx e im wk) (hz : okZ t T H M cs e) (hne : e.2.2.2.2 ≠ []) : Ct yX10_unletter cX10_unletter 1 (some .int) 10 0 0 [.ref m] n kd I J P (pQ m n kd I J P (some (.int (nI (e.2.2.2.2.length - 1)))) 0 (RX m t T fp rr H M un cs tx (setL e e.2.2.2.2.dropLast) im wk)) := by
  refine ct_of 0 (by decide +kernel) (Nat.le_of_ble_eq_true rfl) rfl ?_
  refine r_aload_n dX10_unletter_0 rfl ?_
  refine r_iconst (v := nI 0) dX10_unletter_1 (by decide) ?_
  refine r_putI dX10_unletter_2 fl_X10_193 rfl rfl (kM_0 hC.1) ?_
  refine q_th hC (fun I hC h0 => ?_)
  have hC0 := hC
  have hz0 := hz
  obtain ⟨hM, hT, hSt, hLf, hIm, hWk⟩ := hC
  obtain ⟨okt, oks, okl⟩ := hz
  have hH8 : H ≤ 8 := oks.2.1
  have hM20 : 2 ≤ M ∧ M ≤ 20 := oks.1
  have hH : I m 1 = nI H := hSt.1.1
  have hMo : I m 2 = nI M := hSt.1.2.1
  have hpos := List.length_pos_iff.mpr hne
  have hl10 := okl.2.2.1
  refine r_aload_n dX10_unletter_5 rfl ?_
  refine r_getI dX10_unletter_6 fl_X10_363 rfl (kM_0 hM) ?_
  rw [hLf.2.2.1]
  refine r_if_ne (tgt := 14) dX10_unletter_9 (by decide) (fun _ => ?_) (fun hz => absurd hz (show ¬ _ from (by rw [z_eq (by omega)]; omega)))
  refine r_aload_n dX10_unletter_14 rfl ?_
  refine r_dup dX10_unletter_15 rfl ?_
  refine r_getI dX10_unletter_16 fl_X10_363 rfl (kM_0 hM) ?_
  rw [hLf.2.2.1]
  refine r_iconst (v := nI 1) dX10_unletter_19 (by decide) ?_
  refine r_isub dX10_unletter_20 ?_
  rw [pk_sub (by omega)]
  refine r_putI dX10_unletter_21 fl_X10_363 rfl rfl (kM_0 hM) ?_
  try simp (disch := omega) only [am_up_s, am_up_n, am_up_up]
  refine r_aload_n dX10_unletter_24 rfl ?_
  refine r_getI dX10_unletter_25 fl_X10_363 rfl (kM_0 hM) ?_
  rw [am_up_s, am_up_s]
  refine r_iret rfl dX10_unletter_28 ?_
  refine ⟨rfl, rfl, rfl, rfl, fun a ha => ⟨by simp (disch := omega) only [am_up_s, am_up_n], rfl⟩, by simp (disch := omega) only [am_up_s, am_up_n]; exact h0, RR.up (I := I) (fun a a1 a2 a3 a4 a5 a6 a7 => by simp (disch := omega) only [am_up_s, am_up_n]) (fun j hj => by simp (disch := omega) only [am_up_s, am_up_n]) ?_ hC0⟩
  refine rL_setL (I := I) (L := e.2.2.2.2.dropLast) (fun a a1 => by simp (disch := omega) only [am_up_s, am_up_n]) (by simp (disch := omega) only [am_up_s, am_up_n]) ?_ (fun j hj => ?_) hLf
  · simp (disch := omega) only [am_up_s, am_up_n]
    rw [List.length_dropLast]
  · rw [List.length_dropLast] at hj
    simp (disch := omega) only [am_up_s, am_up_n]
    rw [List.getD_eq_getElem?_getD, List.getElem?_dropLast, if_pos (by omega), ← List.getD_eq_getElem?_getD]
    exact hLf.2.2.2 j (by omega)

theorem rLx_cp {So De Mu Ac Le So' De' Mu' Ac' Le' : Nat → Int32} {na nl na' nl' : Int32} {H M : Nat} {e : Lf} (hH8 : H ≤ 8) (ho : okL H M e) (h1 : ∀ j, j < 8 → So' j = So j ∧ De' j = De j ∧ Mu' j = Mu j) (h4 : ∀ j, j < 90 → Ac' j = Ac j) (h5 : ∀ j, j < 20 → Le' j = Le j) (h6 : na' = na) (h7 : nl' = nl) (h : rLx So De Mu Ac Le na nl H e) : rLx So' De' Mu' Ac' Le' na' nl' H e := by
  obtain ⟨a1, a2, a3⟩ := h
  have o1 := ho.2.1.1
  have o2 := ho.2.2.1
  refine ⟨fun k hk => ?_, ⟨h6.trans a2.1, fun j hj => ?_⟩, ⟨h7.trans a3.1, fun j hj => ?_⟩⟩
  · rw [(h1 k (by omega)).1, (h1 k (by omega)).2.1, (h1 k (by omega)).2.2]; exact a1 k hk
  · rw [h4 _ (by omega), h4 _ (by omega), h4 _ (by omega)]; exact a2.2 j hj
  · rw [h5 _ (by omega), h5 _ (by omega)]; exact a3.2 j hj
theorem dX10_image_0 : decode cX10_image 0 = .ok (.aload_n 0, 1) := by decide +kernel
theorem dX10_image_1 : decode cX10_image 1 = .ok (.iconst 0, 1) := by decide +kernel
theorem dX10_image_2 : decode cX10_image 2 = .ok (.putfield 193, 3) := by decide +kernel
theorem dX10_image_5 : decode cX10_image 5 = .ok (.aload_n 0, 1) := by decide +kernel
theorem dX10_image_6 : decode cX10_image 6 = .ok (.iconst 1, 1) := by decide +kernel
theorem dX10_image_7 : decode cX10_image 7 = .ok (.putfield 366, 3) := by decide +kernel
theorem dX10_image_10 : decode cX10_image 10 = .ok (.aload_n 0, 1) := by decide +kernel
theorem dX10_image_11 : decode cX10_image 11 = .ok (.aload_n 0, 1) := by decide +kernel
theorem dX10_image_12 : decode cX10_image 12 = .ok (.getfield 360, 3) := by decide +kernel
theorem dX10_image_15 : decode cX10_image 15 = .ok (.putfield 560, 3) := by decide +kernel
theorem dX10_image_18 : decode cX10_image 18 = .ok (.aload_n 0, 1) := by decide +kernel
theorem dX10_image_19 : decode cX10_image 19 = .ok (.aload_n 0, 1) := by decide +kernel
theorem dX10_image_20 : decode cX10_image 20 = .ok (.getfield 363, 3) := by decide +kernel
theorem dX10_image_23 : decode cX10_image 23 = .ok (.putfield 563, 3) := by decide +kernel
theorem dX10_image_26 : decode cX10_image 26 = .ok (.aload_n 0, 1) := by decide +kernel
theorem dX10_image_27 : decode cX10_image 27 = .ok (.aload_n 0, 1) := by decide +kernel
theorem dX10_image_28 : decode cX10_image 28 = .ok (.getfield 13, 3) := by decide +kernel
theorem dX10_image_31 : decode cX10_image 31 = .ok (.aload_n 0, 1) := by decide +kernel
theorem dX10_image_32 : decode cX10_image 32 = .ok (.getfield 178, 3) := by decide +kernel
theorem dX10_image_35 : decode cX10_image 35 = .ok (.invokevirtual 356, 3) := by decide +kernel
theorem dX10_image_38 : decode cX10_image 38 = .ok (.aload_n 0, 1) := by decide +kernel
theorem dX10_image_39 : decode cX10_image 39 = .ok (.aload_n 0, 1) := by decide +kernel
theorem dX10_image_40 : decode cX10_image 40 = .ok (.getfield 17, 3) := by decide +kernel
theorem dX10_image_43 : decode cX10_image 43 = .ok (.aload_n 0, 1) := by decide +kernel
theorem dX10_image_44 : decode cX10_image 44 = .ok (.getfield 181, 3) := by decide +kernel
theorem dX10_image_47 : decode cX10_image 47 = .ok (.invokevirtual 356, 3) := by decide +kernel
theorem dX10_image_50 : decode cX10_image 50 = .ok (.aload_n 0, 1) := by decide +kernel
theorem dX10_image_51 : decode cX10_image 51 = .ok (.aload_n 0, 1) := by decide +kernel
theorem dX10_image_52 : decode cX10_image 52 = .ok (.getfield 23, 3) := by decide +kernel
theorem dX10_image_55 : decode cX10_image 55 = .ok (.aload_n 0, 1) := by decide +kernel
theorem dX10_image_56 : decode cX10_image 56 = .ok (.getfield 184, 3) := by decide +kernel
theorem dX10_image_59 : decode cX10_image 59 = .ok (.invokevirtual 356, 3) := by decide +kernel
theorem dX10_image_62 : decode cX10_image 62 = .ok (.aload_n 0, 1) := by decide +kernel
theorem dX10_image_63 : decode cX10_image 63 = .ok (.aload_n 0, 1) := by decide +kernel
theorem dX10_image_64 : decode cX10_image 64 = .ok (.getfield 84, 3) := by decide +kernel
theorem dX10_image_67 : decode cX10_image 67 = .ok (.aload_n 0, 1) := by decide +kernel
theorem dX10_image_68 : decode cX10_image 68 = .ok (.getfield 187, 3) := by decide +kernel
theorem dX10_image_71 : decode cX10_image 71 = .ok (.invokevirtual 356, 3) := by decide +kernel
theorem dX10_image_74 : decode cX10_image 74 = .ok (.aload_n 0, 1) := by decide +kernel
theorem dX10_image_75 : decode cX10_image 75 = .ok (.aload_n 0, 1) := by decide +kernel
theorem dX10_image_76 : decode cX10_image 76 = .ok (.getfield 87, 3) := by decide +kernel
theorem dX10_image_79 : decode cX10_image 79 = .ok (.aload_n 0, 1) := by decide +kernel
theorem dX10_image_80 : decode cX10_image 80 = .ok (.getfield 190, 3) := by decide +kernel
theorem dX10_image_83 : decode cX10_image 83 = .ok (.invokevirtual 356, 3) := by decide +kernel
theorem dX10_image_86 : decode cX10_image 86 = .ok (.return_, 1) := by decide +kernel
set_option maxHeartbeats 4000000 in
set_option maxRecDepth 100000 in
theorem q_image (m : Nat) {t : Nat} {T : Nat → Nat} {fp : Int32} {rr : Nat → Int32} {H M : Nat} {un : Bool} {cs : Nat → List Nat} {tx : Nat → List Int32} {e : Lf} {im : Option Lf} {wk : Option (List Nat)} {n : Nat} {kd : mK} {I : mI} {J : mJ} {P : mP} (hC : RR m kd I P t T fp rr H M un cs tx e im wk) (hz : okZ t T H M cs e) : Ct yX10_image cX10_image 1 none 10 0 0 [.ref m] n kd I J P (pQ m n kd I J P (none) 0 (RX m t T fp rr H M un cs tx e (some e) wk)) := by
  refine ct_of 0 (by decide +kernel) (Nat.le_of_ble_eq_true rfl) rfl ?_
  refine r_aload_n dX10_image_0 rfl ?_
  refine r_iconst (v := nI 0) dX10_image_1 (by decide) ?_
  refine r_putI dX10_image_2 fl_X10_193 rfl rfl (kM_0 hC.1) ?_
  refine q_th hC (fun I hC h0 => ?_)
  have hC0 := hC
  have hz0 := hz
  obtain ⟨hM, hT, hSt, hLf, hIm, hWk⟩ := hC
  obtain ⟨okt, oks, okl⟩ := hz
  have hH8 : H ≤ 8 := oks.2.1
  have hM20 : 2 ≤ M ∧ M ≤ 20 := oks.1
  have hH : I m 1 = nI H := hSt.1.1
  have hMo : I m 2 = nI M := hSt.1.2.1
  refine r_aload_n dX10_image_5 rfl ?_
  refine r_iconst (v := nI 1) dX10_image_6 (by decide) ?_
  refine r_putZ dX10_image_7 fl_X10_366 rfl rfl (by first | exact Or.inl rfl | exact Or.inr rfl | assumption) (kM_0 hM) ?_
  try simp (disch := omega) only [am_up_s, am_up_n, am_up_up]
  refine r_aload_n dX10_image_10 rfl ?_
  refine r_aload_n dX10_image_11 rfl ?_
  refine r_getI dX10_image_12 fl_X10_360 rfl (kM_0 hM) ?_
  rw [am_up_s, am_up_n _ _ (by decide)]
  refine r_putI dX10_image_15 fl_X10_560 rfl rfl (kM_0 hM) ?_
  try simp (disch := omega) only [am_up_s, am_up_n, am_up_up]
  refine r_aload_n dX10_image_18 rfl ?_
  refine r_aload_n dX10_image_19 rfl ?_
  refine r_getI dX10_image_20 fl_X10_363 rfl (kM_0 hM) ?_
  simp (disch := omega) only [am_up_s, am_up_n]
  refine r_putI dX10_image_23 fl_X10_563 rfl rfl (kM_0 hM) ?_
  try simp (disch := omega) only [am_up_s, am_up_n, am_up_up]
  refine r_aload_n dX10_image_26 rfl ?_
  refine r_aload_n dX10_image_27 rfl ?_
  refine r_getR dX10_image_28 fl_X10_13 rfl (kM_0 hM) (pM_4 hM) ?_
  refine r_aload_n dX10_image_31 rfl ?_
  refine r_getR dX10_image_32 fl_X10_178 rfl (kM_0 hM) (pM_93 hM) ?_
  refine r_virtV (c_X10_copies m (m + 1) (m + 51) 8 8 (aM_4 hM) (aM_93 hM) (by omega) (by decide) (by decide) (by decide)) lk_X10_356 mc_X10_copies dX10_image_35 (kM_0 hM) (by decide) rfl rfl (Nat.le_of_ble_eq_true rfl) ?_
  refine r_aload_n dX10_image_38 rfl ?_
  refine r_aload_n dX10_image_39 rfl ?_
  refine r_getR dX10_image_40 fl_X10_17 rfl (kM_0 hM) (pM_5 hM) ?_
  refine r_aload_n dX10_image_43 rfl ?_
  refine r_getR dX10_image_44 fl_X10_181 rfl (kM_0 hM) (pM_94 hM) ?_
  refine r_virtV (c_X10_copies m (m + 2) (m + 52) 8 8 (aM_5 hM) (aM_94 hM) (by omega) (by decide) (by decide) (by decide)) lk_X10_356 mc_X10_copies dX10_image_47 (kM_0 hM) (by decide) rfl rfl (Nat.le_of_ble_eq_true rfl) ?_
  refine r_aload_n dX10_image_50 rfl ?_
  refine r_aload_n dX10_image_51 rfl ?_
  refine r_getR dX10_image_52 fl_X10_23 rfl (kM_0 hM) (pM_7 hM) ?_
  refine r_aload_n dX10_image_55 rfl ?_
  refine r_getR dX10_image_56 fl_X10_184 rfl (kM_0 hM) (pM_95 hM) ?_
  refine r_virtV (c_X10_copies m (m + 4) (m + 53) 8 8 (aM_7 hM) (aM_95 hM) (by omega) (by decide) (by decide) (by decide)) lk_X10_356 mc_X10_copies dX10_image_59 (kM_0 hM) (by decide) rfl rfl (Nat.le_of_ble_eq_true rfl) ?_
  refine r_aload_n dX10_image_62 rfl ?_
  refine r_aload_n dX10_image_63 rfl ?_
  refine r_getR dX10_image_64 fl_X10_84 rfl (kM_0 hM) (pM_46 hM) ?_
  refine r_aload_n dX10_image_67 rfl ?_
  refine r_getR dX10_image_68 fl_X10_187 rfl (kM_0 hM) (pM_96 hM) ?_
  refine r_virtV (c_X10_copies m (m + 23) (m + 54) 90 90 (aM_46 hM) (aM_96 hM) (by omega) (by decide) (by decide) (by decide)) lk_X10_356 mc_X10_copies dX10_image_71 (kM_0 hM) (by decide) rfl rfl (Nat.le_of_ble_eq_true rfl) ?_
  refine r_aload_n dX10_image_74 rfl ?_
  refine r_aload_n dX10_image_75 rfl ?_
  refine r_getR dX10_image_76 fl_X10_87 rfl (kM_0 hM) (pM_48 hM) ?_
  refine r_aload_n dX10_image_79 rfl ?_
  refine r_getR dX10_image_80 fl_X10_190 rfl (kM_0 hM) (pM_97 hM) ?_
  refine r_virtV (c_X10_copies m (m + 24) (m + 55) 20 20 (aM_48 hM) (aM_97 hM) (by omega) (by decide) (by decide) (by decide)) lk_X10_356 mc_X10_copies dX10_image_83 (kM_0 hM) (by decide) rfl rfl (Nat.le_of_ble_eq_true rfl) ?_
  refine r_vret rfl dX10_image_86 ?_
  refine ⟨rfl, rfl, rfl, rfl, fun a ha => ⟨by simp (disch := omega) only [am_up_s, am_up_n], rfl⟩, by simp (disch := omega) only [am_up_s, am_up_n]; exact h0, hM, hT.cg (by simp (disch := omega) only [am_up_s, am_up_n]) (by simp (disch := omega) only [am_up_s, am_up_n]) (by simp (disch := omega) only [am_up_s, am_up_n]) (by simp (disch := omega) only [am_up_s, am_up_n]), hSt.cg (fun j hj => by simp (disch := omega) only [am_up_s, am_up_n]) (fun a ha => by simp (disch := omega) only [am_up_s, am_up_n]), rLx.cg (by simp (disch := omega) only [am_up_s, am_up_n]) (by simp (disch := omega) only [am_up_s, am_up_n]) (by simp (disch := omega) only [am_up_s, am_up_n]) (by simp (disch := omega) only [am_up_s, am_up_n]) (by simp (disch := omega) only [am_up_s, am_up_n]) (by simp (disch := omega) only [am_up_s, am_up_n]) (by simp (disch := omega) only [am_up_s, am_up_n]) hLf, ⟨by simp (disch := omega) only [am_up_s, am_up_n], ?_⟩, hWk.cg (by simp (disch := omega) only [am_up_s, am_up_n]) (by simp (disch := omega) only [am_up_s, am_up_n])⟩
  refine rLx_cp hH8 okl (fun j hj => ?_) (fun j hj => ?_) (fun j hj => ?_) ?_ ?_ hLf
  · simp (disch := omega) only [am_up_s, am_up_n, hj, if_true]
    exact ⟨trivial, trivial, trivial⟩
  · simp (disch := omega) only [am_up_s, am_up_n, hj, if_true]
  · simp (disch := omega) only [am_up_s, am_up_n, hj, if_true]
  · simp (disch := omega) only [am_up_s, am_up_n]
  · simp (disch := omega) only [am_up_s, am_up_n]

set_option maxHeartbeats 4000000 in
set_option maxRecDepth 100000 in
theorem q_restore (m : Nat) {t : Nat} {T : Nat → Nat} {fp : Int32} {rr : Nat → Int32} {H M : Nat} {un : Bool} {cs : Nat → List Nat} {tx : Nat → List Int32} {e : Lf} {e9 : Lf} {wk : Option (List Nat)} {n : Nat} {kd : mK} {I : mI} {J : mJ} {P : mP} (hC : RR m kd I P t T fp rr H M un cs tx e (some e9) wk) (hz : okZ t T H M cs e) (ho9 : okL H M e9) : Ct yX10_restore cX10_restore 1 (some .boolean) 10 0 0 [.ref m] n kd I J P (pQ m n kd I J P (some (.int (nI 1))) 0 (RX m t T fp rr H M un cs tx e9 (some e9) wk)) := by
  refine ct_of 0 (by decide +kernel) (Nat.le_of_ble_eq_true rfl) rfl ?_
  refine r_aload_n dX10_restore_0 rfl ?_
  refine r_iconst (v := nI 0) dX10_restore_1 (by decide) ?_
  refine r_putI dX10_restore_2 fl_X10_193 rfl rfl (kM_0 hC.1) ?_
  refine q_th hC (fun I hC h0 => ?_)
  have hC0 := hC
  have hz0 := hz
  obtain ⟨hM, hT, hSt, hLf, hIm, hWk⟩ := hC
  obtain ⟨okt, oks, okl⟩ := hz
  have hH8 : H ≤ 8 := oks.2.1
  have hM20 : 2 ≤ M ∧ M ≤ 20 := oks.1
  have hH : I m 1 = nI H := hSt.1.1
  have hMo : I m 2 = nI M := hSt.1.2.1
  refine r_aload_n dX10_restore_5 rfl ?_
  refine r_getI dX10_restore_6 fl_X10_366 rfl (kM_0 hM) ?_
  rw [hIm.1]
  refine r_if_ne (tgt := 14) dX10_restore_9 (by decide) (fun _ => ?_) (fun hz => absurd hz (show ¬ _ from (by decide)))
  refine r_aload_n dX10_restore_14 rfl ?_
  refine r_aload_n dX10_restore_15 rfl ?_
  refine r_getI dX10_restore_16 fl_X10_560 rfl (kM_0 hM) ?_
  refine r_putI dX10_restore_19 fl_X10_360 rfl rfl (kM_0 hM) ?_
  try simp (disch := omega) only [am_up_s, am_up_n, am_up_up]
  refine r_aload_n dX10_restore_22 rfl ?_
  refine r_aload_n dX10_restore_23 rfl ?_
  refine r_getI dX10_restore_24 fl_X10_563 rfl (kM_0 hM) ?_
  simp (disch := omega) only [am_up_s, am_up_n]
  refine r_putI dX10_restore_27 fl_X10_363 rfl rfl (kM_0 hM) ?_
  try simp (disch := omega) only [am_up_s, am_up_n, am_up_up]
  refine r_aload_n dX10_restore_30 rfl ?_
  refine r_aload_n dX10_restore_31 rfl ?_
  refine r_getR dX10_restore_32 fl_X10_178 rfl (kM_0 hM) (pM_93 hM) ?_
  refine r_aload_n dX10_restore_35 rfl ?_
  refine r_getR dX10_restore_36 fl_X10_13 rfl (kM_0 hM) (pM_4 hM) ?_
  refine r_virtV (c_X10_copies m (m + 51) (m + 1) 8 8 (aM_93 hM) (aM_4 hM) (by omega) (by decide) (by decide) (by decide)) lk_X10_356 mc_X10_copies dX10_restore_39 (kM_0 hM) (by decide) rfl rfl (Nat.le_of_ble_eq_true rfl) ?_
  refine r_aload_n dX10_restore_42 rfl ?_
  refine r_aload_n dX10_restore_43 rfl ?_
  refine r_getR dX10_restore_44 fl_X10_181 rfl (kM_0 hM) (pM_94 hM) ?_
  refine r_aload_n dX10_restore_47 rfl ?_
  refine r_getR dX10_restore_48 fl_X10_17 rfl (kM_0 hM) (pM_5 hM) ?_
  refine r_virtV (c_X10_copies m (m + 52) (m + 2) 8 8 (aM_94 hM) (aM_5 hM) (by omega) (by decide) (by decide) (by decide)) lk_X10_356 mc_X10_copies dX10_restore_51 (kM_0 hM) (by decide) rfl rfl (Nat.le_of_ble_eq_true rfl) ?_
  refine r_aload_n dX10_restore_54 rfl ?_
  refine r_aload_n dX10_restore_55 rfl ?_
  refine r_getR dX10_restore_56 fl_X10_184 rfl (kM_0 hM) (pM_95 hM) ?_
  refine r_aload_n dX10_restore_59 rfl ?_
  refine r_getR dX10_restore_60 fl_X10_23 rfl (kM_0 hM) (pM_7 hM) ?_
  refine r_virtV (c_X10_copies m (m + 53) (m + 4) 8 8 (aM_95 hM) (aM_7 hM) (by omega) (by decide) (by decide) (by decide)) lk_X10_356 mc_X10_copies dX10_restore_63 (kM_0 hM) (by decide) rfl rfl (Nat.le_of_ble_eq_true rfl) ?_
  refine r_aload_n dX10_restore_66 rfl ?_
  refine r_aload_n dX10_restore_67 rfl ?_
  refine r_getR dX10_restore_68 fl_X10_187 rfl (kM_0 hM) (pM_96 hM) ?_
  refine r_aload_n dX10_restore_71 rfl ?_
  refine r_getR dX10_restore_72 fl_X10_84 rfl (kM_0 hM) (pM_46 hM) ?_
  refine r_virtV (c_X10_copies m (m + 54) (m + 23) 90 90 (aM_96 hM) (aM_46 hM) (by omega) (by decide) (by decide) (by decide)) lk_X10_356 mc_X10_copies dX10_restore_75 (kM_0 hM) (by decide) rfl rfl (Nat.le_of_ble_eq_true rfl) ?_
  refine r_aload_n dX10_restore_78 rfl ?_
  refine r_aload_n dX10_restore_79 rfl ?_
  refine r_getR dX10_restore_80 fl_X10_190 rfl (kM_0 hM) (pM_97 hM) ?_
  refine r_aload_n dX10_restore_83 rfl ?_
  refine r_getR dX10_restore_84 fl_X10_87 rfl (kM_0 hM) (pM_48 hM) ?_
  refine r_virtV (c_X10_copies m (m + 55) (m + 24) 20 20 (aM_97 hM) (aM_48 hM) (by omega) (by decide) (by decide) (by decide)) lk_X10_356 mc_X10_copies dX10_restore_87 (kM_0 hM) (by decide) rfl rfl (Nat.le_of_ble_eq_true rfl) ?_
  refine r_iconst (v := nI 1) dX10_restore_90 (by decide) ?_
  refine r_zret rfl dX10_restore_91 (by first | exact Or.inl rfl | exact Or.inr rfl | assumption) ?_
  have h9 := hIm.2
  unfold rLi at h9
  refine ⟨rfl, rfl, rfl, rfl, fun a ha => ⟨by simp (disch := omega) only [am_up_s, am_up_n], rfl⟩, by simp (disch := omega) only [am_up_s, am_up_n]; exact h0, RR.up (I := I) (fun a a1 a2 a3 a4 a5 a6 a7 => by simp (disch := omega) only [am_up_s, am_up_n]) (fun j hj => by simp (disch := omega) only [am_up_s, am_up_n]) ?_ hC0⟩
  refine rLx_cp hH8 ho9 (fun j hj => ?_) (fun j hj => ?_) (fun j hj => ?_) ?_ ?_ h9
  · simp (disch := omega) only [am_up_s, am_up_n, hj, if_true]
    exact ⟨trivial, trivial, trivial⟩
  · simp (disch := omega) only [am_up_s, am_up_n, hj, if_true]
  · simp (disch := omega) only [am_up_s, am_up_n, hj, if_true]
  · simp (disch := omega) only [am_up_s, am_up_n]
  · simp (disch := omega) only [am_up_s, am_up_n]

set_option maxHeartbeats 4000000 in
set_option maxRecDepth 100000 in
theorem q_door_no (m : Nat) (x : Int32) {t : Nat} {T : Nat → Nat} {fp : Int32} {rr : Nat → Int32} {H M : Nat} {un : Bool} {cs : Nat → List Nat} {tx : Nat → List Int32} {e : Lf} {im : Option Lf} {w : List Nat} {n : Nat} {kd : mK} {I : mI} {J : mJ} {P : mP} (hC : RR m kd I P t T fp rr H M un cs tx e im (some w)) (hz : okZ t T H M cs e) (hw10 : w.length ≤ 10) (hx : x < -1 ∨ ¬ x < nI w.length) : Ct yX10_door cX10_door 2 (some .int) 10 0 0 [.ref m, .int x] n kd I J P (pQ m n kd I J P (some (.int (nI 0))) 1 (RX m t T fp rr H M un cs tx e im (some w))) := by
  refine ct_of 0 (by decide +kernel) (Nat.le_of_ble_eq_true rfl) rfl ?_
  refine r_aload_n dX10_door_0 rfl ?_
  refine r_iconst (v := nI 0) dX10_door_1 (by decide) ?_
  refine r_putI dX10_door_2 fl_X10_193 rfl rfl (kM_0 hC.1) ?_
  refine q_th hC (fun I hC h0 => ?_)
  have hC0 := hC
  have hz0 := hz
  obtain ⟨hM, hT, hSt, hLf, hIm, hWk⟩ := hC
  obtain ⟨okt, oks, okl⟩ := hz
  have hH8 : H ≤ 8 := oks.2.1
  have hM20 : 2 ≤ M ∧ M ≤ 20 := oks.1
  have hH : I m 1 = nI H := hSt.1.1
  have hMo : I m 2 = nI M := hSt.1.2.1
  by_cases c : x < -1
  · skip
    refine r_aload_n dX10_door_5 rfl ?_
    refine r_aload_n dX10_door_6 rfl ?_
    refine r_getI dX10_door_7 fl_X10_139 rfl (kM_0 hM) ?_
    rw [hWk.1]
    refine r_iconst (v := (-1)) dX10_door_10 (by decide) ?_
    refine r_icmp_eq (tgt := 31) dX10_door_11 (by decide) (fun hz => absurd hz (show ¬ _ from (nI_m1 (by omega)))) (fun _ => ?_)
    refine r_iload_n dX10_door_14 rfl ?_
    refine r_iconst (v := (-1)) dX10_door_15 (by decide) ?_
    refine r_icmp_lt (tgt := 31) dX10_door_16 (by decide) (fun _ => ?_) (fun hz => absurd (show _ from c) hz)
    refine r_iconst (v := nI 0) dX10_door_31 (by decide) ?_
    refine r_iconst (v := nI 1) dX10_door_32 (by decide) ?_
    refine r_virtE (c_X10_right m false (nI 1) hM h0 (by decide)) lk_X10_343 mc_X10_right dX10_door_33 (kM_0 hM) (by decide) rfl rfl (Nat.le_of_ble_eq_true rfl) ?_
    refine r_if_ne (tgt := 41) dX10_door_36 (by decide) (fun hz => absurd (show _ from rfl) hz) (fun _ => ?_)
    refine r_iconst (v := nI 0) dX10_door_39 (by decide) ?_
    refine r_iret rfl dX10_door_40 ?_
    exact pQ.th hC0 am_is.mk
  · skip
    refine r_aload_n dX10_door_5 rfl ?_
    refine r_aload_n dX10_door_6 rfl ?_
    refine r_getI dX10_door_7 fl_X10_139 rfl (kM_0 hM) ?_
    rw [hWk.1]
    refine r_iconst (v := (-1)) dX10_door_10 (by decide) ?_
    refine r_icmp_eq (tgt := 31) dX10_door_11 (by decide) (fun hz => absurd hz (show ¬ _ from (nI_m1 (by omega)))) (fun _ => ?_)
    refine r_iload_n dX10_door_14 rfl ?_
    refine r_iconst (v := (-1)) dX10_door_15 (by decide) ?_
    refine r_icmp_lt (tgt := 31) dX10_door_16 (by decide) (fun hz => absurd hz (show ¬ _ from c)) (fun _ => ?_)
    refine r_iload_n dX10_door_19 rfl ?_
    refine r_aload_n dX10_door_20 rfl ?_
    refine r_getI dX10_door_21 fl_X10_139 rfl (kM_0 hM) ?_
    rw [hWk.1]
    refine r_icmp_ge (tgt := 31) dX10_door_24 (by decide) (fun _ => ?_) (fun hz => absurd (show _ from (Int32.not_lt.mp (hx.resolve_left c))) hz)
    refine r_iconst (v := nI 0) dX10_door_31 (by decide) ?_
    refine r_iconst (v := nI 1) dX10_door_32 (by decide) ?_
    refine r_virtE (c_X10_right m false (nI 1) hM h0 (by decide)) lk_X10_343 mc_X10_right dX10_door_33 (kM_0 hM) (by decide) rfl rfl (Nat.le_of_ble_eq_true rfl) ?_
    refine r_if_ne (tgt := 41) dX10_door_36 (by decide) (fun hz => absurd (show _ from rfl) hz) (fun _ => ?_)
    refine r_iconst (v := nI 0) dX10_door_39 (by decide) ?_
    refine r_iret rfl dX10_door_40 ?_
    exact pQ.th hC0 am_is.mk

set_option maxHeartbeats 4000000 in
set_option maxRecDepth 100000 in
theorem q_door_len (m : Nat) {t : Nat} {T : Nat → Nat} {fp : Int32} {rr : Nat → Int32} {H M : Nat} {un : Bool} {cs : Nat → List Nat} {tx : Nat → List Int32} {e : Lf} {im : Option Lf} {w : List Nat} {n : Nat} {kd : mK} {I : mI} {J : mJ} {P : mP} (hC : RR m kd I P t T fp rr H M un cs tx e im (some w)) (hz : okZ t T H M cs e) (hw10 : w.length ≤ 10) : Ct yX10_door cX10_door 2 (some .int) 10 0 0 [.ref m, .int (-1)] n kd I J P (pQ m n kd I J P (some (.int (nI w.length))) 0 (RX m t T fp rr H M un cs tx e im (some w))) := by
  refine ct_of 0 (by decide +kernel) (Nat.le_of_ble_eq_true rfl) rfl ?_
  refine r_aload_n dX10_door_0 rfl ?_
  refine r_iconst (v := nI 0) dX10_door_1 (by decide) ?_
  refine r_putI dX10_door_2 fl_X10_193 rfl rfl (kM_0 hC.1) ?_
  refine q_th hC (fun I hC h0 => ?_)
  have hC0 := hC
  have hz0 := hz
  obtain ⟨hM, hT, hSt, hLf, hIm, hWk⟩ := hC
  obtain ⟨okt, oks, okl⟩ := hz
  have hH8 : H ≤ 8 := oks.2.1
  have hM20 : 2 ≤ M ∧ M ≤ 20 := oks.1
  have hH : I m 1 = nI H := hSt.1.1
  have hMo : I m 2 = nI M := hSt.1.2.1
  refine r_aload_n dX10_door_5 rfl ?_
  refine r_aload_n dX10_door_6 rfl ?_
  refine r_getI dX10_door_7 fl_X10_139 rfl (kM_0 hM) ?_
  rw [hWk.1]
  refine r_iconst (v := (-1)) dX10_door_10 (by decide) ?_
  refine r_icmp_eq (tgt := 31) dX10_door_11 (by decide) (fun hz => absurd hz (show ¬ _ from (nI_m1 (by omega)))) (fun _ => ?_)
  refine r_iload_n dX10_door_14 rfl ?_
  refine r_iconst (v := (-1)) dX10_door_15 (by decide) ?_
  refine r_icmp_lt (tgt := 31) dX10_door_16 (by decide) (fun hz => absurd hz (show ¬ _ from (by decide))) (fun _ => ?_)
  refine r_iload_n dX10_door_19 rfl ?_
  refine r_aload_n dX10_door_20 rfl ?_
  refine r_getI dX10_door_21 fl_X10_139 rfl (kM_0 hM) ?_
  rw [hWk.1]
  refine r_icmp_ge (tgt := 31) dX10_door_24 (by decide) (fun hz => absurd hz (show ¬ _ from (Int32.not_le.mpr (m1_lt (by omega))))) (fun _ => ?_)
  refine r_iconst (v := nI 1) dX10_door_27 (by decide) ?_
  refine r_goto (tgt := 32) dX10_door_28 (by decide) ?_
  refine r_iconst (v := nI 1) dX10_door_32 (by decide) ?_
  refine r_virtE (c_X10_right m true (nI 1) hM h0 (by decide)) lk_X10_343 mc_X10_right dX10_door_33 (kM_0 hM) (by decide) rfl rfl (Nat.le_of_ble_eq_true rfl) ?_
  rw [thM_ok]
  refine r_if_ne (tgt := 41) dX10_door_36 (by decide) (fun _ => ?_) (fun hz => absurd hz (show ¬ _ from (by decide)))
  refine r_iload_n dX10_door_41 rfl ?_
  refine r_iconst (v := (-1)) dX10_door_42 (by decide) ?_
  refine r_icmp_ne (tgt := 53) dX10_door_43 (by decide) (fun hz => absurd (show _ from rfl) hz) (fun _ => ?_)
  refine r_aload_n dX10_door_46 rfl ?_
  refine r_getI dX10_door_47 fl_X10_139 rfl (kM_0 hM) ?_
  rw [hWk.1]
  refine r_goto (tgt := 59) dX10_door_50 (by decide) ?_
  refine r_iret rfl dX10_door_59 ?_
  exact RR.same h0 hC0

set_option maxHeartbeats 4000000 in
set_option maxRecDepth 100000 in
theorem q_door (m : Nat) (i : Nat) {t : Nat} {T : Nat → Nat} {fp : Int32} {rr : Nat → Int32} {H M : Nat} {un : Bool} {cs : Nat → List Nat} {tx : Nat → List Int32} {e : Lf} {im : Option Lf} {w : List Nat} {n : Nat} {kd : mK} {I : mI} {J : mJ} {P : mP} (hC : RR m kd I P t T fp rr H M un cs tx e im (some w)) (hz : okZ t T H M cs e) (hw10 : w.length ≤ 10) (hi : i < w.length) : Ct yX10_door cX10_door 2 (some .int) 10 0 0 [.ref m, .int (nI i)] n kd I J P (pQ m n kd I J P (some (.int (nI (w.getD i 0)))) 0 (RX m t T fp rr H M un cs tx e im (some w))) := by
  refine ct_of 0 (by decide +kernel) (Nat.le_of_ble_eq_true rfl) rfl ?_
  refine r_aload_n dX10_door_0 rfl ?_
  refine r_iconst (v := nI 0) dX10_door_1 (by decide) ?_
  refine r_putI dX10_door_2 fl_X10_193 rfl rfl (kM_0 hC.1) ?_
  refine q_th hC (fun I hC h0 => ?_)
  have hC0 := hC
  have hz0 := hz
  obtain ⟨hM, hT, hSt, hLf, hIm, hWk⟩ := hC
  obtain ⟨okt, oks, okl⟩ := hz
  have hH8 : H ≤ 8 := oks.2.1
  have hM20 : 2 ≤ M ∧ M ≤ 20 := oks.1
  have hH : I m 1 = nI H := hSt.1.1
  have hMo : I m 2 = nI M := hSt.1.2.1
  refine r_aload_n dX10_door_5 rfl ?_
  refine r_aload_n dX10_door_6 rfl ?_
  refine r_getI dX10_door_7 fl_X10_139 rfl (kM_0 hM) ?_
  rw [hWk.1]
  refine r_iconst (v := (-1)) dX10_door_10 (by decide) ?_
  refine r_icmp_eq (tgt := 31) dX10_door_11 (by decide) (fun hz => absurd hz (show ¬ _ from (nI_m1 (by omega)))) (fun _ => ?_)
  refine r_iload_n dX10_door_14 rfl ?_
  refine r_iconst (v := (-1)) dX10_door_15 (by decide) ?_
  refine r_icmp_lt (tgt := 31) dX10_door_16 (by decide) (fun hz => absurd hz (show ¬ _ from (fun q => absurd (Int32.lt_trans q (m1_lt (k := 0) (by decide))) (z_nlt (by omega))))) (fun _ => ?_)
  refine r_iload_n dX10_door_19 rfl ?_
  refine r_aload_n dX10_door_20 rfl ?_
  refine r_getI dX10_door_21 fl_X10_139 rfl (kM_0 hM) ?_
  rw [hWk.1]
  refine r_icmp_ge (tgt := 31) dX10_door_24 (by decide) (fun hz => absurd hz (show ¬ _ from (by rw [nI_leI (by omega) (by omega)]; omega))) (fun _ => ?_)
  refine r_iconst (v := nI 1) dX10_door_27 (by decide) ?_
  refine r_goto (tgt := 32) dX10_door_28 (by decide) ?_
  refine r_iconst (v := nI 1) dX10_door_32 (by decide) ?_
  refine r_virtE (c_X10_right m true (nI 1) hM h0 (by decide)) lk_X10_343 mc_X10_right dX10_door_33 (kM_0 hM) (by decide) rfl rfl (Nat.le_of_ble_eq_true rfl) ?_
  rw [thM_ok]
  refine r_if_ne (tgt := 41) dX10_door_36 (by decide) (fun _ => ?_) (fun hz => absurd hz (show ¬ _ from (by decide)))
  refine r_iload_n dX10_door_41 rfl ?_
  refine r_iconst (v := (-1)) dX10_door_42 (by decide) ?_
  refine r_icmp_ne (tgt := 53) dX10_door_43 (by decide) (fun _ => ?_) (fun hz => absurd hz (show ¬ _ from (nI_m1 (by omega))))
  refine r_aload_n dX10_door_53 rfl ?_
  refine r_getR dX10_door_54 fl_X10_133 rfl (kM_0 hM) (pM_71 hM) ?_
  refine r_iload_n dX10_door_57 rfl ?_
  refine r_iald dX10_door_58 (aM_71 hM) (nI_in8 10 (by omega) (by decide)) (nI_clamp (by omega)) ?_
  rw [hWk.2 i hi]
  refine r_iret rfl dX10_door_59 ?_
  exact RR.same h0 hC0


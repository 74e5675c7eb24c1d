/-! THE READER READS -/
section
variable {Z : am_Z} {own : String} {cc : ByteArray} {nL : Nat} {ret : Option FieldType} {nm : String} {d kc ks pc : Nat} {post post2 : am_Post} {ls : List (Option Value)} {st : List Value} {n : Nat} {kd : mK} {I : mI} {J : mJ} {P : mP}
theorem RuZ.mono (h : RuZ Z own cc nL ret nm d post kc ks pc ls st n kd I J P) (hp : ∀ z n' kd' I' J' P', post z n' kd' I' J' P' → post2 z n' kd' I' J' P') : RuZ Z own cc nL ret nm d post2 kc ks pc ls st n kd I J P := by
  intro p l e R s m args below meth c MC MS A D cA ad Qc XC free H locs cells slots lsC C r wf wl ws hl hc hs he
  exact h p l e R s m args below meth c MC MS A D cA ad Qc XC free H locs cells slots lsC C r wf wl ws hl hc hs ⟨he.1, fun v n' kd' I' J' P' ad' H' locs' h1 => he.2.1 v n' kd' I' J' P' ad' H' locs' (hp _ _ _ _ _ _ h1), fun E n' kd' I' J' P' ad' H' locs' h1 => he.2.2 E n' kd' I' J' P' ad' H' locs' (hp _ _ _ _ _ _ h1)⟩
end
def tks (X : Nat → Int32) (len : Nat) : List Tok := lexF X len 500 0 ++ [(nI 0, len, len)]
def tkT (len : Nat) (X : Nat → Int32) : RT := (len, (tks X len).length, (fun i => ((tks X len).getD i (0, 0, 0)).1), (fun i => ((tks X len).getD i (0, 0, 0)).2.1), (fun i => ((tks X len).getD i (0, 0, 0)).2.2), X)
def z8 (W : Nat → Int32) : Nat → Int32 := fun j => if j < 8 then nI 0 else W j
def rd0 (I : mI) (s l : Nat) : RS := (0, nI 0, -1, nI 0, z8 (I (l + 1)), z8 (I (l + 2)), SS.clear (ssOf I s))
def rdR (I : mI) (s l x len : Nat) : RS := rLines (tkT len (I x)) (tks (I x) len).length (rd0 I s l)
def rdP (n : Nat) (kd : mK) (I : mI) (J : mJ) (P : mP) (r s l x len : Nat) : am_Post := fun z n' kd' I' J' P' => z = .inl (some (.int (bz (decide (rf (rdR I s l x len) = 0))))) ∧ n' = n ∧ kd' = kd ∧ J' = J ∧ P' = P ∧ ∃ I0 : mI, I' = rI r s l (tkT len (I x)) (rdR I s l x len) I0 ∧ (∀ a, (a < s ∨ (s + 7 < a ∧ a < l) ∨ (l + 2 < a ∧ a < r) ∨ r + 4 < a) → I0 a = I a) ∧ I0 l = va_up (va_up (va_up (I l) 2 (nI 0)) 4 (nI 0)) 7 (nI 0)
theorem tks_len (X : Nat → Int32) (len : Nat) : 1 ≤ (tks X len).length ∧ (tks X len).length ≤ 501 := by
  have := lexF_len X len 500 0
  simp [tks]
  omega
theorem tks_in (X : Nat → Int32) (len i : Nat) (hi : i < (tks X len).length) : ((tks X len).getD i (0, 0, 0)).2.1 ≤ ((tks X len).getD i (0, 0, 0)).2.2 ∧ ((tks X len).getD i (0, 0, 0)).2.2 ≤ len := by
  have hm : (tks X len).getD i (0, 0, 0) ∈ tks X len := by
    rw [List.getD, List.getElem?_eq_getElem hi]
    exact List.getElem_mem hi
  generalize (tks X len).getD i (0, 0, 0) = t at hm ⊢
  rcases List.mem_append.mp hm with h | h
  · exact lexF_in X len 500 0 (by omega) t h
  · simp at h; subst h; simp
theorem trow_at (f : Tok → Int32) (ts : List Tok) (W : Nat → Int32) {i : Nat} (hi : i < ts.length) : trow f ts W i = f (ts.getD i (0, 0, 0)) := by
  unfold trow
  rw [List.getD, List.getElem?_eq_getElem hi]
  rfl
theorem hI_self {r : Nat} {k : Int32} {R : RS} {I : mI} (h6 : I r 6 = nI R.1) (h7 : I r 7 = k) (h10 : I r 10 = R.2.2.2.1) (h11 : I r 11 = R.2.1) (h12 : I r 12 = R.2.2.1) : hI r k R I = I := by
  funext a
  by_cases h : a = r
  · subst h
    simp only [hI, if_true]
    funext j
    unfold hRow
    by_cases j6 : j = 6
    · subst j6; simp [h6]
    by_cases j7 : j = 7
    · subst j7; simp [h7]
    by_cases j10 : j = 10
    · subst j10; simp [h10]
    by_cases j11 : j = 11
    · subst j11; simp [h11]
    by_cases j12 : j = 12
    · subst j12; simp [h12]
    simp [j6, j7, j10, j11, j12]
  · simp [hI, h]
theorem lI_self {l : Nat} {so de : Nat → Int32} {I : mI} (h1 : I (l + 1) = so) (h2 : I (l + 2) = de) : lI l so de I = I := by
  funext a
  unfold lI
  by_cases a1 : a = l + 1
  · subst a1; simp [h1]
  by_cases a2 : a = l + 2
  · subst a2; simp [h2]
  simp [a1, a2]
theorem sI_in {s a : Nat} {q : SS} {I I2 : mI} (h : ¬ (a < s ∨ s + 7 < a)) (hs : I s = I2 s) : sI s q I a = sI s q I2 a := by
  obtain ⟨ho, mo, un, ri, cd, tl, lo, co, cf, ct, tx, tf, tt⟩ := q
  simp only [sI]
  rcases (show a = s ∨ a = s + 1 ∨ a = s + 2 ∨ a = s + 3 ∨ a = s + 4 ∨ a = s + 5 ∨ a = s + 6 ∨ a = s + 7 by omega) with rfl | rfl | rfl | rfl | rfl | rfl | rfl | rfl
  · simp [hs]
  all_goals simp
theorem st1 (I : mI) (s l : Nat) (o1 : s + 9 < l) : sI s (SS.clear (ssOf I s)) (va_up (va_up (va_up (sI s (SS.clear (ssOf I s)) I) (l + 1) (fun j => if j < 8 then nI 0 else sI s (SS.clear (ssOf I s)) I (l + 1) j)) (l + 2) (fun j => if j < 8 then nI 0 else sI s (SS.clear (ssOf I s)) I (l + 2) j)) l (va_up (va_up (va_up (sI s (SS.clear (ssOf I s)) I l) 2 (nI 0)) 4 (nI 0)) 7 (nI 0))) = va_up (va_up (va_up (sI s (SS.clear (ssOf I s)) I) (l + 1) (fun j => if j < 8 then nI 0 else sI s (SS.clear (ssOf I s)) I (l + 1) j)) (l + 2) (fun j => if j < 8 then nI 0 else sI s (SS.clear (ssOf I s)) I (l + 2) j)) l (va_up (va_up (va_up (sI s (SS.clear (ssOf I s)) I l) 2 (nI 0)) 4 (nI 0)) 7 (nI 0)) ∧ va_up (va_up (va_up (sI s (SS.clear (ssOf I s)) I) (l + 1) (fun j => if j < 8 then nI 0 else sI s (SS.clear (ssOf I s)) I (l + 1) j)) (l + 2) (fun j => if j < 8 then nI 0 else sI s (SS.clear (ssOf I s)) I (l + 2) j)) l (va_up (va_up (va_up (sI s (SS.clear (ssOf I s)) I l) 2 (nI 0)) 4 (nI 0)) 7 (nI 0)) (l + 1) = z8 (I (l + 1)) ∧ va_up (va_up (va_up (sI s (SS.clear (ssOf I s)) I) (l + 1) (fun j => if j < 8 then nI 0 else sI s (SS.clear (ssOf I s)) I (l + 1) j)) (l + 2) (fun j => if j < 8 then nI 0 else sI s (SS.clear (ssOf I s)) I (l + 2) j)) l (va_up (va_up (va_up (sI s (SS.clear (ssOf I s)) I l) 2 (nI 0)) 4 (nI 0)) 7 (nI 0)) (l + 2) = z8 (I (l + 2)) ∧ va_up (va_up (va_up (sI s (SS.clear (ssOf I s)) I) (l + 1) (fun j => if j < 8 then nI 0 else sI s (SS.clear (ssOf I s)) I (l + 1) j)) (l + 2) (fun j => if j < 8 then nI 0 else sI s (SS.clear (ssOf I s)) I (l + 2) j)) l (va_up (va_up (va_up (sI s (SS.clear (ssOf I s)) I l) 2 (nI 0)) 4 (nI 0)) 7 (nI 0)) l = va_up (va_up (va_up (I l) 2 (nI 0)) 4 (nI 0)) 7 (nI 0) ∧ ∀ a, (a < s ∨ (s + 7 < a ∧ a < l) ∨ l + 2 < a) → va_up (va_up (va_up (sI s (SS.clear (ssOf I s)) I) (l + 1) (fun j => if j < 8 then nI 0 else sI s (SS.clear (ssOf I s)) I (l + 1) j)) (l + 2) (fun j => if j < 8 then nI 0 else sI s (SS.clear (ssOf I s)) I (l + 2) j)) l (va_up (va_up (va_up (sI s (SS.clear (ssOf I s)) I l) 2 (nI 0)) 4 (nI 0)) 7 (nI 0)) a = I a := by
  refine ⟨?_, ?_, ?_, ?_, ?_⟩
  · rw [sI_out _ _ _ (by omega), sI_out _ _ _ (by omega), sI_out _ _ _ (by omega), sI_sI]
  · rw [am_up_n _ _ (show l + 1 ≠ l by omega), am_up_n _ _ (show l + 1 ≠ l + 2 by omega), am_up_s, sI_ne _ _ (by omega)]; rfl
  · rw [am_up_n _ _ (show l + 2 ≠ l by omega), am_up_s, sI_ne _ _ (by omega)]; rfl
  · rw [am_up_s, sI_ne _ _ (by omega)]
  · intro a ha
    rw [am_up_n _ _ (show a ≠ l by omega), am_up_n _ _ (show a ≠ l + 2 by omega), am_up_n _ _ (show a ≠ l + 1 by omega), sI_ne _ _ (by omega)]
set_option maxHeartbeats 4000000 in
set_option maxRecDepth 100000 in
theorem w2_X5_read (r s l x XL len : Nat) (N : Int32) {n : Nat} {kd : mK} {I : mI} {J : mJ} {P : mP} (k0 : kd r = some (0, 5)) (k2 : kd (r + 2) = some (1, 501)) (k3 : kd (r + 3) = some (1, 501)) (k4 : kd (r + 4) = some (1, 501)) (x2 : P r 2 = some (r + 2)) (x3 : P r 3 = some (r + 3)) (x4 : P r 4 = some (r + 4)) (x0 : P r 0 = some x) (x8 : P r 8 = some s) (x9 : P r 9 = some l) (hS : kS kd P s) (hL : kL kd P l) (o1 : s + 9 < l) (o2 : l + 5 < r) (kx : kd x = some (2, XL)) (ox : x < s ∨ r + 4 < x) (xl : XL < 2 ^ 30) (i1 : I r 1 = nI len) (t3 : len ≤ 500) (t4 : len ≤ XL) (hF : ∀ i, i < len → fits .byte (.int (I x i)) = true) : Ru yX5_read.cls cX5_read 6 (some .boolean) yX5_read.name 61 (rdP n kd I J P r s l x len) 0 0 32 [some (.ref r), some (.ref x), some (.int N), some (.ref s), some (.ref l), none] [] n kd I J P := by
  have tl9 := tks_len (I x) len
  refine r_aload_n dX5_read_32 rfl ?_
  refine r_getR dX5_read_33 fl_X5_38 rfl k0 x8 ?_
  refine r_virtV (c_clearG s hS) lk_X5_62 mc_X7_clear dX5_read_36 hS.1 (by decide) rfl rfl (Nat.le_of_ble_eq_true rfl) ?_
  refine r_aload_n dX5_read_39 rfl ?_
  refine r_getR dX5_read_40 fl_X5_42 rfl k0 x9 ?_
  refine r_virtV (c_X2_clear l hL) lk_X5_67 mc_X2_clear dX5_read_43 hL.1 (by decide) rfl rfl (Nat.le_of_ble_eq_true rfl) ?_
  have q1 := st1 I s l o1
  generalize hM2 : va_up (va_up (va_up (sI s (SS.clear (ssOf I s)) I) (l + 1) _) (l + 2) _) l _ = M2 at q1 ⊢
  obtain ⟨m1, m2, m3, m4, m5⟩ := q1
  refine r_aload_n dX5_read_46 rfl ?_
  refine r_iconst (v := nI 0) dX5_read_47 (by decide) ?_
  refine r_putZ dX5_read_48 fl_X5_46 rfl rfl (Or.inl rfl) k0 ?_
  refine r_aload_n dX5_read_51 rfl ?_
  refine r_iconst (v := nI 0) dX5_read_52 (by decide) ?_
  refine r_putI dX5_read_53 fl_X5_50 rfl rfl k0 ?_
  rw [am_up_up, am_up_s]
  refine r_aload_n dX5_read_56 rfl ?_
  refine r_iconst (v := (-1)) dX5_read_57 (by decide) ?_
  refine r_putI dX5_read_58 fl_X5_53 rfl rfl k0 ?_
  rw [am_up_up, am_up_s]
  have q2 : va_up M2 r (va_up (va_up (va_up (M2 r) 10 (nI 0)) 11 (nI 0)) 12 (-1)) x = I x := by rw [am_up_n _ _ (by omega), m5 x (by omega)]
  have q3 : ∀ j, j < 10 → va_up M2 r (va_up (va_up (va_up (M2 r) 10 (nI 0)) 11 (nI 0)) 12 (-1)) r j = I r j := fun j hj => by rw [am_up_s, am_up_n _ _ (by omega), am_up_n _ _ (by omega), am_up_n _ _ (by omega), m5 r (by omega)]
  have q4 : va_up M2 r (va_up (va_up (va_up (M2 r) 10 (nI 0)) 11 (nI 0)) 12 (-1)) r 10 = nI 0 := by rw [am_up_s]; rfl
  have q5 : va_up M2 r (va_up (va_up (va_up (M2 r) 10 (nI 0)) 11 (nI 0)) 12 (-1)) r 11 = nI 0 := by rw [am_up_s]; rfl
  have q6 : va_up M2 r (va_up (va_up (va_up (M2 r) 10 (nI 0)) 11 (nI 0)) 12 (-1)) r 12 = -1 := by rw [am_up_s]; rfl
  have q7 : ∀ a, a ≠ r → va_up M2 r (va_up (va_up (va_up (M2 r) 10 (nI 0)) 11 (nI 0)) 12 (-1)) a = M2 a := fun a ha => am_up_n _ _ ha
  have q8 : sI s (SS.clear (ssOf I s)) (va_up M2 r (va_up (va_up (va_up (M2 r) 10 (nI 0)) 11 (nI 0)) 12 (-1))) = va_up M2 r (va_up (va_up (va_up (M2 r) 10 (nI 0)) 11 (nI 0)) 12 (-1)) := by rw [← sI_out _ _ _ (by omega), m1]
  generalize va_up M2 r (va_up (va_up (va_up (M2 r) 10 (nI 0)) 11 (nI 0)) 12 (-1)) = M5 at *
  refine r_aload_n dX5_read_61 rfl ?_
  refine r_virtV (c_X5_cutIntoTokens r x XL len k0 k2 k3 k4 x2 x3 x4 x0 kx (by omega) (by rw [q3 1 (by decide), i1]) t3 t4 xl) lk_X5_70 mc_X5_cutIntoTokens dX5_read_62 k0 (by decide) rfl rfl (Nat.le_of_ble_eq_true rfl) ?_
  rw [q2]
  change RuZ _ _ _ _ _ _ _ _ _ _ _ _ _ _ _ (tI r (tks (I x) len) M5) _ _
  refine r_aload_n dX5_read_65 rfl ?_
  refine r_iconst (v := nI 0) dX5_read_66 (by decide) ?_
  refine r_putI dX5_read_67 fl_X5_32 rfl rfl k0 ?_
  refine r_aload_n dX5_read_70 rfl ?_
  refine r_aload_n dX5_read_71 rfl ?_
  refine r_getR dX5_read_72 fl_X5_19 rfl k0 x2 ?_
  refine r_iconst (v := nI 0) dX5_read_75 (by decide) ?_
  refine r_iald dX5_read_76 k2 (nI_in8 501 (by omega) (by decide)) (nI_clamp (by omega)) ?_
  rw [am_up_n _ _ (show r + 2 ≠ r by omega), tI_k, trow_at _ _ _ (show 0 < (tks (I x) len).length by omega)]
  refine r_putI dX5_read_77 fl_X5_35 rfl rfl k0 ?_
  rw [am_up_up, am_up_s]
  refine r_iconst (v := nI 0) dX5_read_80 (by decide) ?_
  refine r_istore dX5_read_81 (by decide) ?_
  have g1 : ∀ j, j ≠ 6 → j ≠ 7 → va_up (tI r (tks (I x) len) M5) r (va_up (va_up (tI r (tks (I x) len) M5 r) 6 (nI 0)) 7 ((tks (I x) len).getD 0 (0, 0, 0)).1) r j = tI r (tks (I x) len) M5 r j := fun j a b => by rw [am_up_s, am_up_n _ _ b, am_up_n _ _ a]
  have g2 : va_up (tI r (tks (I x) len) M5) r (va_up (va_up (tI r (tks (I x) len) M5 r) 6 (nI 0)) 7 ((tks (I x) len).getD 0 (0, 0, 0)).1) r 6 = nI 0 := by rw [am_up_s]; rfl
  have g3 : va_up (tI r (tks (I x) len) M5) r (va_up (va_up (tI r (tks (I x) len) M5 r) 6 (nI 0)) 7 ((tks (I x) len).getD 0 (0, 0, 0)).1) r 7 = ((tks (I x) len).getD 0 (0, 0, 0)).1 := by rw [am_up_s]; rfl
  have g4 : ∀ a, a ≠ r → va_up (tI r (tks (I x) len) M5) r (va_up (va_up (tI r (tks (I x) len) M5 r) 6 (nI 0)) 7 ((tks (I x) len).getD 0 (0, 0, 0)).1) a = tI r (tks (I x) len) M5 a := fun a ha => am_up_n _ _ ha
  have g5 : sI s (SS.clear (ssOf I s)) (tI r (tks (I x) len) M5) = tI r (tks (I x) len) M5 := by
    funext a
    by_cases ha : a < s ∨ s + 7 < a
    · rw [sI_ne _ _ ha]
    · have e1 := congrFun q8 a
      rw [tI_ne _ _ (show a < r ∨ r + 4 < a by omega)]
      rw [← e1]
      exact sI_in (by omega) (by rw [tI_ne _ _ (show s < r ∨ r + 4 < s by omega)])
  have g6 : sI s (SS.clear (ssOf I s)) (va_up (tI r (tks (I x) len) M5) r (va_up (va_up (tI r (tks (I x) len) M5 r) 6 (nI 0)) 7 ((tks (I x) len).getD 0 (0, 0, 0)).1)) = va_up (tI r (tks (I x) len) M5) r (va_up (va_up (tI r (tks (I x) len) M5 r) 6 (nI 0)) 7 ((tks (I x) len).getD 0 (0, 0, 0)).1) := by rw [← sI_out _ _ _ (by omega), g5]
  generalize va_up (tI r (tks (I x) len) M5) r (va_up (va_up (tI r (tks (I x) len) M5 r) 6 (nI 0)) 7 ((tks (I x) len).getD 0 (0, 0, 0)).1) = M9 at *
  have f0 : ∀ a, a ≠ r → a ≠ r + 2 → a ≠ r + 3 → a ≠ r + 4 → M9 a = M2 a := fun a b c d e => by rw [g4 a b]; simp only [tI, b, c, d, e, if_false]; exact q7 a b
  have E : rI r s l (tkT len (I x)) (rd0 I s l) M9 = M9 := by
    unfold rI
    rw [hI_self (r := r) (k := rk (tkT len (I x)) (rd0 I s l)) (R := rd0 I s l) (I := M9) g2 g3 (by rw [g1 10 (by decide) (by decide), tI_r _ _ (by decide), q4]; rfl) (by rw [g1 11 (by decide) (by decide), tI_r _ _ (by decide), q5]; rfl) (by rw [g1 12 (by decide) (by decide), tI_r _ _ (by decide), q6]; rfl)]
    rw [lI_self (by rw [f0 (l + 1) (by omega) (by omega) (by omega) (by omega)]; exact m2) (by rw [f0 (l + 2) (by omega) (by omega) (by omega) (by omega)]; exact m3)]
    exact g6
  have hB : rOK kd P M9 r s l x XL (tkT len (I x)) := by
    refine ⟨⟨k0, k2, k3, k4⟩, ⟨x0, x2, x3, x4, x8, x9⟩, hS, hL, ⟨o1, o2⟩, ⟨kx, ox, xl⟩, ⟨?_, ?_⟩, ?_, ⟨tl9.1, tl9.2, t3, t4⟩, fun i hi => tks_in _ _ i hi, ?_, hF⟩
    · rw [g1 1 (by decide) (by decide), tI_r _ _ (by decide), q3 1 (by decide), i1]; rfl
    · rw [g1 5 (by decide) (by decide), tI_5]; rfl
    · intro i hi
      rw [g4 _ (show r + 2 ≠ r by omega), g4 _ (show r + 3 ≠ r by omega), g4 _ (show r + 4 ≠ r by omega), tI_k, tI_b, tI_e, trow_at _ _ _ hi, trow_at _ _ _ hi, trow_at _ _ _ hi]
      exact ⟨rfl, rfl, rfl⟩
    · rw [g4 x (by omega), tI_ne _ _ (by omega), q2]; rfl
  have hn := w_X5_read (n := n) (J := J) r s l x XL (tkT len (I x)) N hB (tks (I x) len).length 0 (by simp [tkT]) (rd0 I s l) ⟨tl9.1, by show 0 ≤ 8; omega, by show 0 ≤ 520; omega, by show 0 ≤ 1000; omega⟩
  rw [E] at hn
  refine RuZ.mono hn ?_
  rintro z n' kd' I' J' P' ⟨rfl, rfl, rfl, rfl, rfl, rfl⟩
  exact ⟨rfl, rfl, rfl, rfl, rfl, M9, rfl, fun a ha => by rw [f0 a (by omega) (by omega) (by omega) (by omega)]; exact m5 a (by omega), by rw [f0 l (by omega) (by omega) (by omega) (by omega)]; exact m4⟩


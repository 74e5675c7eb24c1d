/-! STREET: the machine does what the descent does -/
def gzP (_ : Nat) (_ : Nat → Bool) : Prop := True
def gzM (T : RT) (j : Nat) (t2 : Nat → Bool) : Prop := gzP j t2 ∧ is2 42 47 (tkK T j) = false
def gzS (T : RT) (j : Nat) (t2 : Nat → Bool) : Prop := gzM T j t2 ∧ is2 43 45 (tkK T j) = false
def gzT (T : RT) (D j : Nat) (t2 : Nat → Bool) : Prop := gzS T j t2 ∧ (is2 60 61 (tkK T j) = true → t2 (D + 1) = true)
def gzB (T : RT) (D j : Nat) (t2 : Nat → Bool) : Prop := gzT T D j t2 ∧ is1 134 (tkK T j) = false
def gzE (T : RT) (D j : Nat) (t2 : Nat → Bool) : Prop := gzB T D j t2 ∧ is1 133 (tkK T j) = false
theorem is2_f {a b : Nat} {k : Int32} (h : is2 a b k = false) : ¬ k = nI a ∧ ¬ k = nI b := by
  unfold is2 at h
  rw [Bool.or_eq_false_iff, decide_eq_false_iff_not, decide_eq_false_iff_not] at h
  exact h
theorem is2_t {a b : Nat} {k : Int32} (h : is2 a b k = true) : k = nI a ∨ k = nI b := by
  unfold is2 at h
  rw [Bool.or_eq_true, decide_eq_true_eq, decide_eq_true_eq] at h
  exact h
theorem is1_f {a : Nat} {k : Int32} (h : is1 a k = false) : ¬ k = nI a := by
  unfold is1 at h
  exact of_decide_eq_false h
theorem is1_t {a : Nat} {k : Int32} (h : is1 a k = true) : k = nI a := of_decide_eq_true h
theorem stp_O {T : RT} {h md c i : Nat} {out w : List Nat} {te : Nat → Bool} (hm : md < 2) : stp T h (md, c, i, out, w, te) = stO T h md c i out w te := by
  show (if md < 2 then _ else _) = _
  rw [if_pos hm]
theorem stp_A {T : RT} {h c i : Nat} {out w : List Nat} {te : Nat → Bool} : stp T h (2, c, i, out, w, te) = stA T i out w te := rfl
theorem stA_end {T : RT} {D i : Nat} {out w : List Nat} {te : Nat → Bool} (hD : opens w = D) (hz : gzE T D i te) (h41 : ¬ (tkK T i = nI 41 ∧ 0 < opens w)) : stA T i out w te = if 0 < opens w then (3, 1, i, out, w, te) else (4, 0, i, out ++ (drpW 0 w).1, (drpW 0 w).2, te) := by
  obtain ⟨⟨⟨⟨⟨-, h42⟩, h43⟩, h60⟩, h134⟩, h133⟩ := hz
  unfold stA
  have n60 : ¬ ((tkK T i = nI 60 ∨ tkK T i = nI 61) ∧ te (opens w + 1) = false) := fun q => by
    have := h60 (by unfold is2; rw [Bool.or_eq_true, decide_eq_true_eq, decide_eq_true_eq]; exact q.1)
    rw [hD] at q
    rw [q.2] at this
    exact absurd this (by decide)
  rw [if_neg (is1_f h134), if_neg (is1_f h133), if_neg n60, if_neg (fun q => q.elim (is2_f h43).1 (is2_f h43).2), if_neg (fun q => q.elim (is2_f h42).1 (is2_f h42).2), if_neg h41]
theorem atom_gt {T : RT} {h i : Nat} (h0 : (pAtom T h i).1 = 0) : i < (pAtom T h i).2.1 := by
  unfold pAtom at h0 ⊢
  split
  · rename_i a
    rw [if_pos a] at h0
    split
    · rename_i b; rw [if_pos b] at h0; exact absurd h0 (by show ¬ (2 : Nat) = 0; decide)
    · show i < i + 1; omega
  · rename_i a
    rw [if_neg a] at h0
    split
    · rename_i b
      rw [if_pos b] at h0
      split
      · rename_i c; rw [if_pos c] at h0; exact absurd h0 (by show ¬ (1 : Nat) = 0; decide)
      · rename_i c
        rw [if_neg c] at h0
        split
        · rename_i d; rw [if_pos d] at h0; exact absurd h0 (by show ¬ (2 : Nat) = 0; decide)
        · rename_i d
          rw [if_neg d] at h0
          split
          · rename_i f; rw [if_pos f] at h0; exact absurd h0 (by show ¬ (2 : Nat) = 0; decide)
          · show i < i + 2; omega
    · rename_i b
      rw [if_neg b] at h0
      split
      · show i < i + 1; omega
      · rename_i c
        rw [if_neg c] at h0
        have h0 : (if tkK T i < nI 128 then 1 else 3) = 0 := h0
        split at h0 <;> exact absurd h0 (by decide)
theorem sim_part {T : RT} {h k D : Nat} (hD : D + k = 5) (hE : ∀ k', k = k' + 1 → Sm1 T h 1 (D + 1) (gzE T (D + 1)) (pExpr T h k)) : Sm0 T h 7 D gzP (pPart T h (pExpr T h k)) := by
  intro i md c out w te hop hw hmd
  have hmd2 : md < 2 := by omega
  have hno : ¬ (md = 1 ∧ tkK T i = nI 135) := fun q => hmd.elim (fun a => by omega) (fun a => a.2 q.2)
  have hs : stp T h (md, c, i, out, w, te) = _ := stp_O hmd2
  unfold stO at hs
  rw [if_neg hno] at hs
  unfold pPart
  by_cases h40 : tkK T i = nI 40
  · rw [if_pos h40] at hs ⊢
    cases k with
    | zero =>
      rw [if_neg (by omega)] at hs
      have hv : pExpr T h 0 (i + 1) = (if tkK T (i + 1) = nI 2 ∨ ¬ tkK T (i + 1) < nI 128 ∨ tkK T (i + 1) = nI 40 then 2 else 1, i + 1, []) := rfl
      have hne : ¬ (pExpr T h 0 (i + 1)).1 = 0 := by
        rw [hv]
        show ¬ (if _ then 2 else 1) = 0
        split <;> decide
      unfold pThen
      rw [if_neg hne]
      refine ⟨fun _ => ⟨out, 0 :: w, te, Rch.st ?_⟩, fun a => absurd a hne⟩
      rw [hs, hv]
      exact Rch.rf
    | succ k' =>
      rw [if_pos (by omega), hop] at hs
      have h1 := hE k' rfl (i + 1) out (0 :: w) (upT te (D + 2) false) (by show 1 + opens w = D + 1; omega) (okTop.cons (Or.inl rfl)) (by unfold upT; rw [if_pos rfl])
      unfold pThen
      by_cases h0 : (pExpr T h (k' + 1) (i + 1)).1 = 0
      · rw [if_pos h0]
        dsimp only
        obtain ⟨hj, o2, p, t2, r1, r2, r3, r4, r5⟩ := h1.2 h0
        have hop2 : opens (p ++ 0 :: w) = D + 1 := by
          rw [opens_app p (fun x hx => (r3 x hx).1)]
          show 1 + opens w = D + 1
          omega
        have hR : Rch T h (md, c, i, out, w, te) (2, 0, (pExpr T h (k' + 1) (i + 1)).2.1, o2, p ++ 0 :: w, t2) := Rch.st (by rw [hs]; exact r1)
        by_cases h41 : tkK T (pExpr T h (k' + 1) (i + 1)).2.1 = nI 41
        · rw [if_pos h41]
          refine ⟨fun a => absurd rfl a, fun _ => ⟨by show i < _ + 1; omega, o2 ++ p, [], t2, hR.tr (Rch.st ?_), by rw [List.append_nil]; exact r2, fun x hx => absurd hx List.not_mem_nil, fun d hd => ?_, trivial⟩⟩
          · rw [stp_A]
            unfold stA
            rw [if_neg (by rw [h41]; decide), if_neg (by rw [h41]; decide), if_neg (fun q => q.1.elim (fun a => absurd (h41.symm.trans a) (by decide)) (fun a => absurd (h41.symm.trans a) (by decide))), if_neg (by rw [h41]; decide), if_neg (by rw [h41]; decide), if_pos ⟨h41, by omega⟩, drpW_app (okTop.cons (Or.inl rfl)) p (fun x hx => ⟨(r3 x hx).1, Nat.zero_le _⟩)]
            exact Rch.rf
          · rw [r4 d (by omega)]
            unfold upT
            rw [if_neg (by omega)]
        · rw [if_neg h41]
          refine ⟨fun _ => ⟨o2, p ++ 0 :: w, t2, hR.tr (Rch.st ?_)⟩, fun a => absurd a (by show ¬ (1 : Nat) = 0; decide)⟩
          rw [stp_A, stA_end hop2 r5 (fun q => h41 q.1), if_pos (by omega)]
          exact Rch.rf
      · rw [if_neg h0]
        obtain ⟨o2, w2, t2, r1⟩ := h1.1 h0
        exact ⟨fun _ => ⟨o2, w2, t2, Rch.st (by rw [hs]; exact r1)⟩, fun a => absurd a h0⟩
  · rw [if_neg h40] at hs ⊢
    by_cases h0 : (pAtom T h i).1 = 0
    · rw [if_pos h0] at hs
      refine ⟨fun a => absurd h0 a, fun _ => ⟨atom_gt h0, out ++ (pAtom T h i).2.2, [], te, Rch.st (by rw [hs]; exact Rch.rf), by rw [List.append_nil], fun x hx => absurd hx List.not_mem_nil, fun _ _ => rfl, trivial⟩⟩
    · rw [if_neg h0] at hs
      exact ⟨fun _ => ⟨out, w, te, Rch.st (by rw [hs]; exact Rch.rf)⟩, fun a => absurd a h0⟩
theorem sim_prod {T : RT} {h D : Nat} {E : Nat → PR} (hT : tkW T) (hp : Sm0 T h 7 D gzP (pPart T h E)) : Sm0 T h 6 D (gzM T) (pProd T h E) := by
  intro i md c out w te hop hw hmd
  refine then_sim (hp i md c out w te hop (hw.up (by decide)) hmd) (fun j cs o2 p t2 hj r1 r2 r3 r4 r5 => ?_)
  refine loop_sim (nt := false) hT hop hw (fun k => ⟨?_, fun hk => ?_⟩) (by decide) (fun i out w2 te hw2 hi hz => ?_) (fun i out w2 te hw2 ht hn => hp i 0 0 out w2 te hw2 ht (Or.inl rfl)) (fun a => by cases a) 500 j cs o2 p t2 out te i _ (by have := hT.1; omega) hj r1 r2 (fun x hx => ⟨(r3 x hx).1, by have := (r3 x hx).2; omega⟩) r4 r5
  · unfold cdN; split <;> decide
  · unfold cdN; split <;> decide
  · rw [stp_A]
    unfold stA
    rcases is2_t hi with q | q
    · rw [if_neg (by rw [q]; decide), if_neg (by rw [q]; decide), if_neg (fun z => z.1.elim (fun a => absurd (q.symm.trans a) (by decide)) (fun a => absurd (q.symm.trans a) (by decide))), if_neg (by rw [q]; decide), if_pos (Or.inl q)]
      rfl
    · rw [if_neg (by rw [q]; decide), if_neg (by rw [q]; decide), if_neg (fun z => z.1.elim (fun a => absurd (q.symm.trans a) (by decide)) (fun a => absurd (q.symm.trans a) (by decide))), if_neg (by rw [q]; decide), if_pos (Or.inr q)]
      rfl
theorem sim_sum {T : RT} {h D : Nat} {E : Nat → PR} (hT : tkW T) (hp : Sm0 T h 6 D (gzM T) (pProd T h E)) : Sm0 T h 5 D (gzS T) (pSum T h E) := by
  intro i md c out w te hop hw hmd
  refine then_sim (hp i md c out w te hop (hw.up (by decide)) hmd) (fun j cs o2 p t2 hj r1 r2 r3 r4 r5 => ?_)
  refine loop_sim (nt := false) hT hop hw (fun k => ⟨?_, fun hk => ?_⟩) (by decide) (fun i out w2 te hw2 hi hz => ?_) (fun i out w2 te hw2 ht hn => hp i 0 0 out w2 te hw2 ht (Or.inl rfl)) (fun a => by cases a) 500 j cs o2 p t2 out te i _ (by have := hT.1; omega) hj r1 r2 (fun x hx => ⟨(r3 x hx).1, by have := (r3 x hx).2; omega⟩) r4 r5
  · unfold cdN; split <;> decide
  · unfold cdN; split <;> decide
  · rw [stp_A]
    unfold stA
    rcases is2_t hi with q | q
    · rw [if_neg (by rw [q]; decide), if_neg (by rw [q]; decide), if_neg (fun z => z.1.elim (fun a => absurd (q.symm.trans a) (by decide)) (fun a => absurd (q.symm.trans a) (by decide))), if_pos (Or.inl q)]
      rfl
    · rw [if_neg (by rw [q]; decide), if_neg (by rw [q]; decide), if_neg (fun z => z.1.elim (fun a => absurd (q.symm.trans a) (by decide)) (fun a => absurd (q.symm.trans a) (by decide))), if_pos (Or.inr q)]
      rfl
theorem sim_test {T : RT} {h D : Nat} {E : Nat → PR} (hp : Sm0 T h 5 D (gzS T) (pSum T h E)) : Sm0T T h 4 D (gzT T D) (pTest T h E) := by
  intro i md c out w te hop hw hte hmd
  have h1 := hp i md c out w te hop (hw.up (by decide)) hmd
  unfold pTest pThen
  by_cases h0 : (pSum T h E i).1 = 0
  · rw [if_pos h0]
    dsimp only
    obtain ⟨hj, o2, p, t2, r1, r2, r3, r4, r5⟩ := h1.2 h0
    by_cases hc : is2 60 61 (tkK T (pSum T h E i).2.1) = true
    · rw [if_pos hc]
      have hop2 : opens (p ++ w) = D := (opens_app p (fun x hx => (r3 x hx).1)).trans hop
      have hcd : ¬ cdN 60 20008 20009 (tkK T (pSum T h E i).2.1) = 0 ∧ stN (cdN 60 20008 20009 (tkK T (pSum T h E i).2.1)) = 4 := by unfold cdN; split <;> decide
      have hs : stp T h (2, 0, (pSum T h E i).2.1, o2, p ++ w, t2) = (0, 0, (pSum T h E i).2.1 + 1, o2 ++ p, cdN 60 20008 20009 (tkK T (pSum T h E i).2.1) :: w, upT t2 (D + 1) true) := by
        rw [stp_A]
        unfold stA
        rw [drpW_app hw p (fun x hx => ⟨(r3 x hx).1, by have := (r3 x hx).2; omega⟩), hop2]
        have q := is2_t hc
        rw [if_neg (fun z => q.elim (fun a => absurd (z.symm.trans a) (by decide)) (fun a => absurd (z.symm.trans a) (by decide))), if_neg (fun z => q.elim (fun a => absurd (z.symm.trans a) (by decide)) (fun a => absurd (z.symm.trans a) (by decide))), if_pos ⟨q, by rw [r4 _ (by omega)]; exact hte⟩]
      have hR : Rch T h (md, c, i, out, w, te) (0, 0, (pSum T h E i).2.1 + 1, o2 ++ p, cdN 60 20008 20009 (tkK T (pSum T h E i).2.1) :: w, upT t2 (D + 1) true) := r1.tr (Rch.st (by rw [hs]; exact Rch.rf))
      have h2 := hp ((pSum T h E i).2.1 + 1) 0 0 (o2 ++ p) (cdN 60 20008 20009 (tkK T (pSum T h E i).2.1) :: w) (upT t2 (D + 1) true) ((opens_cons hcd.1).trans hop) (okTop.cons (Or.inr (by rw [hcd.2]; decide))) (Or.inl rfl)
      by_cases h9 : (pSum T h E ((pSum T h E i).2.1 + 1)).1 = 0
      · rw [if_pos h9]
        obtain ⟨hj2, o3, p3, t3, s1, s2, s3, s4, s5⟩ := h2.2 h9
        refine ⟨fun a => absurd rfl a, fun _ => ⟨by show i < (pSum T h E ((pSum T h E i).2.1 + 1)).2.1; omega, o3, p3 ++ [cdN 60 20008 20009 (tkK T (pSum T h E i).2.1)], t3, ?_, ?_, fun x hx => ?_, fun d hd => ?_, s5, fun _ => ?_⟩⟩
        · rw [List.append_assoc p3]; exact hR.tr s1
        · show o3 ++ (p3 ++ [_]) = out ++ (_ ++ _ ++ [_])
          rw [← List.append_assoc, s2, r2]; simp
        · rcases List.mem_append.mp hx with y | y
          · have := s3 x y; exact ⟨this.1, by omega⟩
          · rw [List.mem_singleton.mp y]; exact ⟨hcd.1, by rw [hcd.2]; exact Nat.le_refl _⟩
        · rw [s4 d (by omega)]
          unfold upT
          rw [if_neg (by omega)]
          exact r4 d (by omega)
        · rw [s4 (D + 1) (Nat.le_refl _)]
          unfold upT
          rw [if_pos rfl]
      · rw [if_neg h9]
        obtain ⟨o3, w3, t3, s1⟩ := h2.1 h9
        exact ⟨fun _ => ⟨o3, w3, t3, hR.tr s1⟩, fun a => absurd a h9⟩
    · rw [if_neg hc]
      exact ⟨fun a => absurd rfl a, fun _ => ⟨hj, o2, p, t2, r1, r2, fun x hx => ⟨(r3 x hx).1, by have := (r3 x hx).2; omega⟩, fun d hd => r4 d (by omega), r5, fun a => absurd a hc⟩⟩
  · rw [if_neg h0]
    exact ⟨fun _ => h1.1 h0, fun a => absurd a h0⟩
theorem nots_sim {T : RT} {h : Nat} : ∀ (k m i : Nat) (out w : List Nat) (te : Nat → Bool), k + m = 7 → m ≤ 6 → (¬ (pNots T k m i).1 = 0 → ∃ o2 w2 t2, Rch T h (1, m, i, out, w, te) (3, (pNots T k m i).1, (pNots T k m i).2.2, o2, w2, t2)) ∧ ((pNots T k m i).1 = 0 → i ≤ (pNots T k m i).2.2 ∧ m ≤ (pNots T k m i).2.1 ∧ ¬ tkK T (pNots T k m i).2.2 = nI 135 ∧ Rch T h (1, m, i, out, w, te) (1, (pNots T k m i).2.1, (pNots T k m i).2.2, out, List.replicate ((pNots T k m i).2.1 - m) 20003 ++ w, te))
  | 0, m, i, out, w, te, hk, hm => by omega
  | k + 1, m, i, out, w, te, hk, hm => by
    unfold pNots
    by_cases hc : tkK T i = nI 135
    · rw [if_pos hc]
      have hs : stp T h (1, m, i, out, w, te) = _ := stp_O (by decide)
      unfold stO at hs
      rw [if_pos ⟨rfl, hc⟩] at hs
      by_cases h6 : m = 6
      · rw [if_pos h6] at hs ⊢
        exact ⟨fun _ => ⟨out, w, te, Rch.st (by rw [hs]; exact Rch.rf)⟩, fun a => absurd a (by show ¬ (2 : Nat) = 0; decide)⟩
      · rw [if_neg h6] at hs ⊢
        have ih := nots_sim (T := T) (h := h) k (m + 1) (i + 1) out (20003 :: w) te (by omega) (by omega)
        refine ⟨fun a => ?_, fun a => ?_⟩
        · obtain ⟨o2, w2, t2, r⟩ := ih.1 a
          exact ⟨o2, w2, t2, Rch.st (by rw [hs]; exact r)⟩
        · obtain ⟨i1, i2, i3, i4⟩ := ih.2 a
          refine ⟨by omega, by omega, i3, Rch.st ?_⟩
          rw [hs]
          have e : List.replicate ((pNots T k (m + 1) (i + 1)).2.1 - m) 20003 ++ w = List.replicate ((pNots T k (m + 1) (i + 1)).2.1 - (m + 1)) 20003 ++ 20003 :: w := by
            rw [show (pNots T k (m + 1) (i + 1)).2.1 - m = ((pNots T k (m + 1) (i + 1)).2.1 - (m + 1)) + 1 by omega, List.replicate_succ']
            simp
          rw [e]
          exact i4
    · rw [if_neg hc]
      refine ⟨fun a => absurd rfl a, fun _ => ⟨Nat.le_refl _, Nat.le_refl _, hc, ?_⟩⟩
      show Rch T h _ (1, m, i, out, List.replicate (m - m) 20003 ++ w, te)
      rw [Nat.sub_self]
      exact Rch.rf
theorem sim_not {T : RT} {h D : Nat} {E : Nat → PR} (hp : Sm0T T h 4 D (gzT T D) (pTest T h E)) : Sm1 T h 3 D (gzT T D) (pNot T h E) := by
  intro i out w te hop hw hte
  have hn := nots_sim (T := T) (h := h) 7 0 i out w te rfl (by decide)
  unfold pNot
  generalize pNots T 7 0 i = q at hn ⊢
  obtain ⟨f, m, j⟩ := q
  by_cases h0 : f = 0
  · subst h0
    obtain ⟨i1, -, i3, i4⟩ := hn.2 rfl
    rw [if_pos rfl]
    have i4 : Rch T h (1, 0, i, out, w, te) (1, m, j, out, List.replicate m 20003 ++ w, te) := i4
    have hrep : ∀ x ∈ List.replicate m 20003, ¬ x = 0 ∧ 3 ≤ stN x := fun x hx => by rw [List.eq_of_mem_replicate hx]; decide
    have htop : okTop 4 (List.replicate m 20003 ++ w) := by
      cases m with
      | zero => exact hw.up (by decide)
      | succ m => exact okTop.cons (Or.inr (by decide))
    have h1 := hp j 1 m out (List.replicate m 20003 ++ w) te ((opens_app _ (fun x hx => (hrep x hx).1)).trans hop) htop hte (Or.inr ⟨rfl, i3⟩)
    show rsX T h 3 D 0 i _ out w te (gzT T D) (pThen (pTest T h E j) (fun j cs => (0, j, cs ++ List.replicate m 20003)))
    unfold pThen
    by_cases h9 : (pTest T h E j).1 = 0
    · rw [if_pos h9]
      obtain ⟨hj, o2, p, t2, r1, r2, r3, r4, r5⟩ := h1.2 h9
      have i1 : i ≤ j := i1
      refine ⟨fun a => absurd rfl a, fun _ => ⟨by show i < (pTest T h E j).2.1; omega, o2, p ++ List.replicate m 20003, t2, ?_, ?_, fun x hx => ?_, r4, r5⟩⟩
      · rw [List.append_assoc]; exact i4.tr r1
      · show o2 ++ (p ++ _) = out ++ (_ ++ _)
        rw [← List.append_assoc, r2, List.append_assoc]
      · rcases List.mem_append.mp hx with y | y
        · have := r3 x y; exact ⟨this.1, by omega⟩
        · exact hrep x y
    · rw [if_neg h9]
      obtain ⟨o2, w2, t2, r1⟩ := h1.1 h9
      exact ⟨fun _ => ⟨o2, w2, t2, i4.tr r1⟩, fun a => absurd a h9⟩
  · rw [if_neg h0]
    obtain ⟨o2, w2, t2, r⟩ := hn.1 h0
    exact ⟨fun _ => ⟨o2, w2, t2, r⟩, fun a => absurd a h0⟩
theorem sim_both {T : RT} {h D : Nat} {E : Nat → PR} (hT : tkW T) (hp : Sm1 T h 3 D (gzT T D) (pNot T h E)) : Sm1 T h 2 D (gzB T D) (pBoth T h E) := by
  intro i out w te hop hw hte
  refine then_sim (hp i out w te hop (hw.up (by decide)) hte) (fun j cs o2 p t2 hj r1 r2 r3 r4 r5 => ?_)
  refine loop_sim (nt := true) hT hop hw (fun k => ⟨by unfold cd1N; decide, fun _ => rfl⟩) (by decide) (fun i out w2 te hw2 hi hz => ?_) (fun i out w2 te hw2 ht hn => hp i out w2 te hw2 ht (hn rfl)) (fun _ => rfl) 500 j cs o2 p t2 out te i _ (by have := hT.1; omega) hj r1 r2 (fun x hx => ⟨(r3 x hx).1, by have := (r3 x hx).2; omega⟩) r4 r5
  rw [stp_A]
  unfold stA
  rw [if_pos (is1_t hi), hw2]
  rfl
theorem sim_expr1 {T : RT} {h D k : Nat} (hT : tkW T) (hp : Sm1 T h 2 D (gzB T D) (pBoth T h (pExpr T h k))) : Sm1 T h 1 D (gzE T D) (pExpr T h (k + 1)) := by
  intro i out w te hop hw hte
  show rsX T h 1 D 0 i _ out w te (gzE T D) (pThen (pBoth T h (pExpr T h k) i) (pLoop T (is1 133) (cd1N 20011) (pBoth T h (pExpr T h k)) 500))
  refine then_sim (hp i out w te hop (hw.up (by decide)) hte) (fun j cs o2 p t2 hj r1 r2 r3 r4 r5 => ?_)
  refine loop_sim (nt := true) hT hop hw (fun k => ⟨by unfold cd1N; decide, fun _ => rfl⟩) (by decide) (fun i out w2 te hw2 hi hz => ?_) (fun i out w2 te hw2 ht hn => hp i out w2 te hw2 ht (hn rfl)) (fun _ => rfl) 500 j cs o2 p t2 out te i _ (by have := hT.1; omega) hj r1 r2 (fun x hx => ⟨(r3 x hx).1, by have := (r3 x hx).2; omega⟩) r4 r5
  rw [stp_A]
  unfold stA
  rw [if_neg (by rw [is1_t hi]; decide), if_pos (is1_t hi), hw2]
  rfl
theorem sim_expr {T : RT} {h : Nat} (hT : tkW T) : ∀ (k D : Nat), D + k = 5 → Sm1 T h 1 D (gzE T D) (pExpr T h (k + 1))
  | 0, D, hD => sim_expr1 hT (sim_both hT (sim_not (sim_test (sim_sum hT (sim_prod hT (sim_part hD (fun k' hk => by omega)))))))
  | k + 1, D, hD => sim_expr1 hT (sim_both hT (sim_not (sim_test (sim_sum hT (sim_prod hT (sim_part hD (fun k' hk => sim_expr hT k (D + 1) (by omega))))))))
/-- the machine's whole run -/
theorem gram_run {T : RT} {h i : Nat} {out : List Nat} {te : Nat → Bool} (hT : tkW T) (ht : te 1 = false) : (¬ (pExpr T h 6 i).1 = 0 → ∃ o2 w2 t2, Rch T h (1, 0, i, out, [], te) (3, (pExpr T h 6 i).1, (pExpr T h 6 i).2.1, o2, w2, t2)) ∧ ((pExpr T h 6 i).1 = 0 → i < (pExpr T h 6 i).2.1 ∧ ∃ t2, Rch T h (1, 0, i, out, [], te) (4, 0, (pExpr T h 6 i).2.1, out ++ (pExpr T h 6 i).2.2, [], t2)) := by
  have h1 := sim_expr (h := h) hT 5 0 rfl i out [] te rfl (fun x hx => by cases hx) ht
  refine ⟨h1.1, fun h0 => ?_⟩
  obtain ⟨hj, o2, p, t2, r1, r2, r3, r4, r5⟩ := h1.2 h0
  refine ⟨hj, t2, r1.tr (Rch.st ?_)⟩
  have hop : opens (p ++ []) = 0 := opens_app p (fun x hx => (r3 x hx).1)
  rw [stp_A, stA_end hop r5 (fun q => by omega), if_neg (by omega), drpW_app (fun x hx => by cases hx) p (fun x hx => ⟨(r3 x hx).1, Nat.zero_le _⟩)]
  show Rch T h (4, 0, _, o2 ++ p, [], t2) _
  rw [r2]
  exact Rch.rf

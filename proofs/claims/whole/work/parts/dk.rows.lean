/-! STREET: the rows of the class as it reads -/
def txN (tx : Nat → List Int32) (H : Nat) (w : List Int32) : Nat → List Int32 := fun h => if h = H then w else tx h
/-- houses read -/
def qX (cs : Nat → List Nat) (tx : Nat → List Int32) (n : Nat) (q : SS) : Prop := ∀ x, x < n → q.2.2.2.2.2.2.1 x = nI (lkm 0 (cs x)) ∧ q.2.2.2.2.2.2.2.2.1 x = nI (ofs cs x) ∧ q.2.2.2.2.2.2.2.2.2.1 x = nI (ofs cs x + (cs x).length) ∧ (∀ j, j < (cs x).length → q.2.2.2.2.2.2.2.1 (ofs cs x + j) = nI ((cs x).getD j 0)) ∧ ∃ a, q.2.2.2.2.2.2.2.2.2.2.2.1 x = nI a ∧ q.2.2.2.2.2.2.2.2.2.2.2.2 x = nI (a + (tx x).length) ∧ a + (tx x).length ≤ q.2.2.2.2.2.1 ∧ ∀ j, j < (tx x).length → q.2.2.2.2.2.2.2.2.2.2.1 (a + j) = (tx x).getD j 0
def qC (cs : Nat → List Nat) (tx : Nat → List Int32) (ho : Nat) (q : SS) : Prop := q.1 = ho ∧ q.2.2.2.2.1 = ofs cs ho ∧ (∀ i, i < 32 → bt q.2.2.2.1 i = (decide (i < ho) && !(cs i).isEmpty)) ∧ qX cs tx ho q
/-- a riddle of house ho under way: codes r, text w -/
def qM (cs : Nat → List Nat) (tx : Nat → List Int32) (ho : Nat) (r : List Nat) (w : List Int32) (q : SS) : Prop := q.1 = ho + 1 ∧ q.2.2.2.2.1 = ofs cs ho + r.length ∧ ((∀ i, i < 32 → i ≠ ho → bt q.2.2.2.1 i = (decide (i < ho) && !(cs i).isEmpty)) ∧ bt q.2.2.2.1 ho = true) ∧ qX cs tx ho q ∧ q.2.2.2.2.2.2.1 ho = nI (lkm 0 r) ∧ q.2.2.2.2.2.2.2.2.1 ho = nI (ofs cs ho) ∧ q.2.2.2.2.2.2.2.2.2.1 ho = nI (ofs cs ho + r.length) ∧ (∀ j, j < r.length → q.2.2.2.2.2.2.2.1 (ofs cs ho + j) = nI (r.getD j 0)) ∧ ∃ a, q.2.2.2.2.2.2.2.2.2.2.2.1 ho = nI a ∧ q.2.2.2.2.2.2.2.2.2.2.2.2 ho = nI (a + w.length) ∧ q.2.2.2.2.2.1 = a + w.length ∧ ∀ j, j < w.length → q.2.2.2.2.2.2.2.2.2.2.1 (a + j) = w.getD j 0
theorem qX.cg {cs cs' : Nat → List Nat} {tx tx' : Nat → List Int32} {n : Nat} {q : SS} (h1 : ∀ x, x < n → cs' x = cs x) (h2 : ∀ x, x < n → tx' x = tx x) (h3 : ∀ x, x < n → ofs cs' x = ofs cs x) (h : qX cs tx n q) : qX cs' tx' n q := fun x hx => by
  rw [h1 x hx, h2 x hx, h3 x hx]
  exact h x hx
theorem txN_o {tx : Nat → List Int32} {H h : Nat} {w : List Int32} (hh : h ≠ H) : txN tx H w h = tx h := if_neg hh
theorem txN_s {tx : Nat → List Int32} {H : Nat} {w : List Int32} : txN tx H w H = w := if_pos rfl
theorem csN_len {cs : Nat → List Nat} {H : Nat} {r : List Nat} : ofs (csN cs H r) (H + 1) = ofs cs H + r.length := by
  show ofs (csN cs H r) H + (csN cs H r H).length = _
  rw [csN_ofs H (Nat.le_refl H), csN_s]
/-- a house more, without a riddle -/
theorem qC.house {cs : Nat → List Nat} {tx : Nat → List Int32} {ho : Nat} {q : SS} (h8 : ho < 8) (h : qC cs tx ho q) : qC (csN cs ho []) (txN tx ho []) (ho + 1) (SS.house q) ∧ (SS.house q).2.2.2.2.2.1 = q.2.2.2.2.2.1 ∧ (SS.house q).2.1 = q.2.1 ∧ (SS.house q).2.2.1 = q.2.2.1 := by
  obtain ⟨hq, mo, un, ri, cd, tl, lo, co, cf, ct, txr, tf, tt⟩ := q
  obtain ⟨h1, h2, h3, h4⟩ := h
  have h1 : hq = ho := h1
  subst h1
  have h2 : cd = ofs cs hq := h2
  have e : SS.house (hq, mo, un, ri, cd, tl, lo, co, cf, ct, txr, tf, tt) = (hq + 1, mo, un, ri, cd, tl, va_up lo hq (nI 0), co, va_up cf hq (nI cd), va_up ct hq (nI cd), txr, va_up tf hq (nI tl), va_up tt hq (nI tl)) := if_pos h8
  rw [e]
  refine ⟨⟨rfl, ?_, fun i hi => ?_, fun x hx => ?_⟩, rfl, rfl, rfl⟩
  · show cd = _
    rw [csN_len, h2]
    rfl
  · have h3 := h3 i hi
    show bt ri i = _
    rw [h3]
    by_cases c : i = hq
    · subst c
      rw [csN_s, decide_eq_false (Nat.lt_irrefl i)]
      show false = (_ && !true)
      rw [Bool.not_true, Bool.and_false]
    · rw [csN_o c]
      by_cases d : i < hq
      · rw [decide_eq_true d, decide_eq_true (by omega)]
      · rw [decide_eq_false d, decide_eq_false (by omega)]
  · by_cases c : x = hq
    · subst c
      rw [csN_s, txN_s, csN_ofs x (Nat.le_refl x)]
      exact ⟨by show va_up lo x (nI 0) x = _; rw [am_up_s]; rfl, by show va_up cf x (nI cd) x = _; rw [am_up_s, h2], by show va_up ct x (nI cd) x = _; rw [am_up_s, h2]; rfl, fun j hj => absurd hj (Nat.not_lt_zero j), tl, by show va_up tf x (nI tl) x = _; rw [am_up_s], by show va_up tt x (nI tl) x = _; rw [am_up_s]; rfl, Nat.le_refl _, fun j hj => absurd hj (Nat.not_lt_zero j)⟩
    · rw [csN_o c, txN_o c, csN_ofs x (by omega)]
      obtain ⟨g1, g2, g3, g4, a, g5, g6, g7, g8⟩ := h4 x (by omega)
      exact ⟨by show va_up lo hq (nI 0) x = _; rw [am_up_n _ _ c]; exact g1, by show va_up cf hq (nI cd) x = _; rw [am_up_n _ _ c]; exact g2, by show va_up ct hq (nI cd) x = _; rw [am_up_n _ _ c]; exact g3, g4, a, by show va_up tf hq (nI tl) x = _; rw [am_up_n _ _ c]; exact g5, by show va_up tt hq (nI tl) x = _; rw [am_up_n _ _ c]; exact g6, g7, g8⟩
/-- a riddle begun -/
theorem qC.begin {cs : Nat → List Nat} {tx : Nat → List Int32} {ho : Nat} {q : SS} (h8 : ho < 8) (hof : ofs cs ho < 2 ^ 31) (hcs : cs ho = []) (htx : tx ho = []) (htl : ∃ a, q.2.2.2.2.2.2.2.2.2.2.2.1 ho = nI a ∧ q.2.2.2.2.2.1 = a) (h : qC cs tx (ho + 1) q) : qM cs tx ho [] [] (SS.begin q) ∧ (SS.begin q).2.2.2.2.2.1 = q.2.2.2.2.2.1 ∧ (SS.begin q).2.1 = q.2.1 ∧ (SS.begin q).2.2.1 = q.2.2.1 := by
  obtain ⟨hq, mo, un, ri, cd, tl, lo, co, cf, ct, txr, tf, tt⟩ := q
  obtain ⟨h1, h2, h3, h4⟩ := h
  have h1 : hq = ho + 1 := h1
  subst h1
  have h2 : cd = ofs cs (ho + 1) := h2
  have e : SS.begin (ho + 1, mo, un, ri, cd, tl, lo, co, cf, ct, txr, tf, tt) = (ho + 1, mo, un, ri ||| (nI 1 <<< (nI ho &&& 31)), (cf ho).toNatClampNeg, tl, va_up lo ho (nI 0), co, cf, va_up ct ho (cf ho), txr, tf, tt) := by
    show (if ho + 1 = 0 then (ho + 1, mo, un, ri, cd, tl, lo, co, cf, ct, txr, tf, tt) else (ho + 1, mo, un, ri ||| (nI 1 <<< (nI (ho + 1 - 1) &&& 31)), (cf (ho + 1 - 1)).toNatClampNeg, tl, va_up lo (ho + 1 - 1) (nI 0), co, cf, va_up ct (ho + 1 - 1) (cf (ho + 1 - 1)), txr, tf, tt)) = _
    rw [if_neg (Nat.succ_ne_zero ho), show ho + 1 - 1 = ho by omega]
  rw [e]
  obtain ⟨g1, g2, g3, g4, a, g5, g6, g7, g8⟩ := h4 ho (Nat.lt_succ_self ho)
  have g2 : cf ho = nI (ofs cs ho) := g2
  obtain ⟨a2, t1, t2⟩ := htl
  refine ⟨⟨rfl, ?_, ⟨fun i hi hn => ?_, ?_⟩, fun x hx => ?_, ?_, g2, ?_, fun j hj => absurd hj (Nat.not_lt_zero j), a2, t1, ?_, t2, fun j hj => absurd hj (Nat.not_lt_zero j)⟩, rfl, rfl, rfl⟩
  · show (cf ho).toNatClampNeg = _
    rw [g2, nI_clamp hof]
    rfl
  · show bt (ri ||| (nI 1 <<< (nI ho &&& 31))) i = _
    rw [b_or, b_sh1 (by omega) hi, decide_eq_false hn, Bool.or_false, h3 i hi]
    by_cases d : i < ho
    · rw [decide_eq_true d, decide_eq_true (show i < ho + 1 by omega)]
    · rw [decide_eq_false d, decide_eq_false (show ¬ i < ho + 1 by omega)]
  · show bt (ri ||| (nI 1 <<< (nI ho &&& 31))) ho = true
    rw [b_or, b_sh1 (by omega) (by omega), decide_eq_true rfl, Bool.or_true]
  · obtain ⟨f1, f2, f3, f4, b, f5, f6, f7, f8⟩ := h4 x (by omega)
    exact ⟨by show va_up lo ho (nI 0) x = _; rw [am_up_n _ _ (by omega)]; exact f1, f2, by show va_up ct ho (cf ho) x = _; rw [am_up_n _ _ (by omega)]; exact f3, f4, b, f5, f6, f7, f8⟩
  · show va_up lo ho (nI 0) ho = _
    rw [am_up_s]
    rfl
  · show va_up ct ho (cf ho) ho = _
    rw [am_up_s, g2]
    rfl
  · have g5 : tf ho = nI a := g5
    have t1 : tf ho = nI a2 := t1
    show tt ho = nI (a2 + 0)
    have g6 : tt ho = nI (a + (tx ho).length) := g6
    rw [g6, htx]
    show nI (a + 0) = nI (a2 + 0)
    rw [Nat.add_zero, Nat.add_zero, ← g5, t1]
/-- a code more -/
theorem qM.code {cs : Nat → List Nat} {tx : Nat → List Int32} {ho c : Nat} {r : List Nat} {w : List Int32} {q : SS} (h8 : ho < 8) (hcd : ofs cs ho + r.length < 520) (hc : cOK c) (h : qM cs tx ho r w q) : qM cs tx ho (r ++ [c]) w (SS.code q (nI c)) ∧ (SS.code q (nI c)).2.2.2.2.2.1 = q.2.2.2.2.2.1 ∧ (SS.code q (nI c)).2.1 = q.2.1 ∧ (SS.code q (nI c)).2.2.1 = q.2.2.1 := by
  obtain ⟨hq, mo, un, ri, cd, tl, lo, co, cf, ct, txr, tf, tt⟩ := q
  obtain ⟨h1, h2, h3, h4, g1, g2, g3, g4, g5⟩ := h
  have h1 : hq = ho + 1 := h1
  subst h1
  have h2 : cd = ofs cs ho + r.length := h2
  have g1 : lo ho = nI (lkm 0 r) := g1
  rw [ssc_ok (show ¬ (ho + 1 = 0 ∨ 520 ≤ cd) by omega), show ho + 1 - 1 = ho by omega]
  refine ⟨⟨rfl, ?_, h3, fun x hx => ?_, ?_, g2, ?_, fun j hj => ?_, g5⟩, rfl, rfl, rfl⟩
  · show cd + 1 = _
    rw [h2, List.length_append]
    rfl
  · obtain ⟨f1, f2, f3, f4, b, f5⟩ := h4 x hx
    have hi := ofs_inn cs hx
    refine ⟨?_, f2, by show va_up ct ho (nI (cd + 1)) x = _; rw [am_up_n _ _ (by omega)]; exact f3, fun j hj => by show va_up co cd (nI c) _ = _; rw [am_up_n _ _ (by omega)]; exact f4 j hj, b, f5⟩
    show (if nI 10000 ≤ nI c ∧ nI c < nI 20000 then va_up lo ho _ else lo) x = _
    split
    · rw [am_up_n _ _ (by omega)]; exact f1
    · exact f1
  · show (if nI 10000 ≤ nI c ∧ nI c < nI 20000 then va_up lo ho (lo ho ||| (nI 1 <<< ((nI c - nI 10000) &&& 31))) else lo) ho = _
    rw [lkm_app]
    have hc2 := hc.1
    by_cases q : 10000 ≤ c ∧ c < 20000
    · have hc3 := hc.2 q.1 q.2
      rw [if_pos ⟨(nI_leI (by decide) (by omega)).mpr q.1, (nI_ltI (by omega) (by decide)).mpr q.2⟩, if_pos q, am_up_s, g1, pk_sub q.1, or_sh2 (by omega)]
    · rw [if_neg (fun z => q ⟨(nI_leI (by decide) (by omega)).mp z.1, (nI_ltI (by omega) (by decide)).mp z.2⟩), if_neg q]
      exact g1
  · show va_up ct ho (nI (cd + 1)) ho = _
    rw [am_up_s, h2, List.length_append]
    rfl
  · show va_up co cd (nI c) _ = _
    by_cases q : j < r.length
    · rw [am_up_n _ _ (by omega), List.getD_eq_getElem?_getD, List.getElem?_append_left q, ← List.getD_eq_getElem?_getD]
      exact g4 j q
    · rw [List.length_append] at hj
      have hj : j < r.length + 1 := hj
      have ej : j = r.length := by omega
      subst ej
      rw [← h2, am_up_s, List.getD_eq_getElem?_getD, List.getElem?_append_right (Nat.le_refl _), Nat.sub_self]
      rfl
theorem nI_inj {a b : Nat} (ha : a < 2 ^ 31) (hb : b < 2 ^ 31) (h : nI a = nI b) : a = b := (nI_eq ha hb).mp h
/-- a token more -/
theorem qM.tok {cs : Nat → List Nat} {tx : Nat → List Int32} {ho b e : Nat} {r : List Nat} {w : List Int32} {q : SS} {X : Nat → Int32} (h8 : ho < 8) (hbe : b < e) (he : e ≤ 500) (htl : q.2.2.2.2.2.1 ≤ 2 * b) (h : qM cs tx ho r w q) : qM cs tx ho r (apT w (tbs X b (e - b))) (SS.token q X b e) ∧ (SS.token q X b e).2.2.2.2.2.1 ≤ 2 * e ∧ (SS.token q X b e).2.1 = q.2.1 ∧ (SS.token q X b e).2.2.1 = q.2.2.1 := by
  obtain ⟨hq, mo, un, ri, cd, tl, lo, co, cf, ct, txr, tf, tt⟩ := q
  obtain ⟨h1, h2, h3, h4, g1, g2, g3, g4, a, g5, g6, g7, g8⟩ := h
  have h1 : hq = ho + 1 := h1
  subst h1
  have htl : tl ≤ 2 * b := htl
  have g5 : tf ho = nI a := g5
  have g7 : tl = a + w.length := g7
  have g8 : ∀ j, j < w.length → txr (a + j) = w.getD j 0 := g8
  have hno : ¬ (ho + 1 = 0 ∨ e ≤ b ∨ 1000 ≤ tl + e - b) := by omega
  have hlast : 0 < w.length → txr (tl - 1) = lstB w := by
    intro hw
    rw [show tl - 1 = a + (w.length - 1) by omega, g8 _ (by omega)]
    unfold lstB
    rw [List.getLast?_eq_getElem?, List.getD_eq_getElem?_getD, List.getElem?_eq_getElem (by omega)]
    rfl
  have hhead : (tbs X b (e - b)).headD 0 = X b := by rw [show e - b = (e - b - 1) + 1 by omega]; rfl
  have hcond : (!decide (nI tl = tf (ho + 1 - 1)) && wdl (X b) && wdl (txr (tl - 1))) = (!w.isEmpty && (wdl ((tbs X b (e - b)).headD 0) && wdl (lstB w))) := by
    rw [show ho + 1 - 1 = ho by omega, g5, hhead]
    cases w with
    | nil =>
      have g7 : tl = a + 0 := g7
      rw [decide_eq_true (by rw [g7]; rfl)]
      rfl
    | cons x t =>
      have g7 : tl = a + (t.length + 1) := g7
      rw [decide_eq_false (fun z => by have := nI_inj (by omega) (by omega) z; omega), hlast (Nat.succ_pos _), Bool.and_assoc]
      rfl
  have hx4 : ∀ (tl' : Nat) (tx' : Nat → Int32) (tt' : Int32), tl ≤ tl' → (∀ k, k < tl → tx' k = txr k) → qX cs tx ho (ho + 1, mo, un, ri, cd, tl', lo, co, cf, ct, tx', tf, va_up tt ho tt') := by
    intro tl' tx' tt' k1 k2 x hx
    obtain ⟨f1, f2, f3, f4, c, f5, f6, f7, f8⟩ := h4 x hx
    have f7 : c + (tx x).length ≤ tl := f7
    exact ⟨f1, f2, f3, f4, c, f5, by show va_up tt ho tt' x = _; rw [am_up_n _ _ (by omega)]; exact f6, by show c + (tx x).length ≤ tl'; omega, fun j hj => by show tx' (c + j) = _; rw [k2 _ (by omega)]; exact f8 j hj⟩
  by_cases hs : (!w.isEmpty && (wdl ((tbs X b (e - b)).headD 0) && wdl (lstB w))) = true
  · rw [sst_sp hno (by rw [hcond]; exact hs), show ho + 1 - 1 = ho by omega]
    have ea : apT w (tbs X b (e - b)) = w ++ [nI 32] ++ tbs X b (e - b) := by unfold apT; rw [if_pos hs]
    have el : (apT w (tbs X b (e - b))).length = w.length + 1 + (e - b) := by rw [ea, List.length_append, List.length_append, tbs_len]; rfl
    have hv : ∀ k, va_cpy X (va_up txr tl (nI 32)) b (tl + 1) (e - b) k = if tl + 1 ≤ k ∧ k < tl + 1 + (e - b) then X (b + (k - (tl + 1))) else va_up txr tl (nI 32) k := fun k => rfl
    refine ⟨⟨rfl, h2, h3, hx4 _ _ _ (by omega) (fun k hk => ?_), g1, g2, g3, g4, a, g5, ?_, ?_, fun j hj => ?_⟩, by show tl + 1 + (e - b) ≤ 2 * e; omega, rfl, rfl⟩
    · rw [hv, if_neg (by omega), am_up_n _ _ (by omega)]
    · show va_up tt ho _ ho = _
      rw [am_up_s, el, g7]
      congr 1
      omega
    · show tl + 1 + (e - b) = _
      rw [el, g7]
      omega
    · show va_cpy X (va_up txr tl (nI 32)) b (tl + 1) (e - b) (a + j) = _
      rw [el] at hj
      rw [hv, ea]
      by_cases c1 : j < w.length
      · rw [if_neg (by omega), am_up_n _ _ (by omega), g8 j c1, List.getD_eq_getElem?_getD, List.getD_eq_getElem?_getD, List.append_assoc, List.getElem?_append_left c1]
      · by_cases c2 : j = w.length
        · rw [if_neg (by omega), show a + j = tl by omega, am_up_s, c2, List.getD_eq_getElem?_getD, List.append_assoc, List.getElem?_append_right (Nat.le_refl _), Nat.sub_self]
          rfl
        · rw [if_pos (by omega), List.getD_eq_getElem?_getD, List.getElem?_append_right (by rw [List.length_append]; show w.length + 1 ≤ j; omega), ← List.getD_eq_getElem?_getD, List.length_append]
          show _ = (tbs X b (e - b)).getD (j - (w.length + 1)) 0
          rw [tbs_at X (e - b) b _ (by omega)]
          congr 1
          omega
  · rw [sst_ns hno (by rw [hcond]; exact hs), show ho + 1 - 1 = ho by omega]
    have ea : apT w (tbs X b (e - b)) = w ++ tbs X b (e - b) := by unfold apT; rw [if_neg hs, List.append_nil]
    have el : (apT w (tbs X b (e - b))).length = w.length + (e - b) := by rw [ea, List.length_append, tbs_len]
    have hv : ∀ k, va_cpy X txr b tl (e - b) k = if tl ≤ k ∧ k < tl + (e - b) then X (b + (k - tl)) else txr k := fun k => rfl
    refine ⟨⟨rfl, h2, h3, hx4 _ _ _ (by omega) (fun k hk => ?_), g1, g2, g3, g4, a, g5, ?_, ?_, fun j hj => ?_⟩, by show tl + (e - b) ≤ 2 * e; omega, rfl, rfl⟩
    · rw [hv, if_neg (by omega)]
    · show va_up tt ho _ ho = _
      rw [am_up_s, el, g7]
      congr 1
      omega
    · show tl + (e - b) = _
      rw [el, g7]
      omega
    · show va_cpy X txr b tl (e - b) (a + j) = _
      rw [el] at hj
      rw [hv, ea]
      by_cases c1 : j < w.length
      · rw [if_neg (by omega), g8 j c1, List.getD_eq_getElem?_getD, List.getD_eq_getElem?_getD, List.getElem?_append_left c1]
      · rw [if_pos (by omega), List.getD_eq_getElem?_getD, List.getElem?_append_right (by omega), ← List.getD_eq_getElem?_getD, tbs_at X (e - b) b _ (by omega)]
        congr 1
        omega
/-- a riddle read to its end -/
theorem qM.fin {cs : Nat → List Nat} {tx : Nat → List Int32} {ho : Nat} {r : List Nat} {w : List Int32} {q : SS} (hr : r ≠ []) (h : qM cs tx ho r w q) : qC (csN cs ho r) (txN tx ho w) (ho + 1) q := by
  obtain ⟨h1, h2, ⟨h3, h3b⟩, h4, g1, g2, g3, g4, a, g5, g6, g7, g8⟩ := h
  refine ⟨h1, by rw [csN_len]; exact h2, fun i hi => ?_, fun x hx => ?_⟩
  · by_cases c : i = ho
    · subst c
      rw [csN_s, h3b, decide_eq_true (by omega)]
      cases r with
      | nil => exact absurd rfl hr
      | cons x t => rfl
    · rw [h3 i hi c, csN_o c]
      by_cases d : i < ho
      · rw [decide_eq_true d, decide_eq_true (by omega)]
      · rw [decide_eq_false d, decide_eq_false (by omega)]
  · by_cases c : x = ho
    · subst c
      rw [csN_s, txN_s, csN_ofs x (Nat.le_refl x)]
      exact ⟨g1, g2, g3, g4, a, g5, g6, by rw [g7]; exact Nat.le_refl _, g8⟩
    · rw [csN_o c, txN_o c, csN_ofs x (by omega)]
      exact h4 x (by omega)

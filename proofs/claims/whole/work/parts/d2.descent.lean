/-! STREET: the class's descent is the pure one -/
def rToks (T : RT) : Nat → Nat → SS → SS
  | 0, _, q => q
  | n + 1, i, q => rToks T n (i + 1) (SS.token q T.2.2.2.2.2 (T.2.2.2.1 i) (T.2.2.2.2.1 i))
def rCds : List Nat → SS → SS
  | [], q => q
  | c :: t, q => rCds t (SS.code q (nI c))
def rGo (T : RT) (R : RS) (j : Nat) (cs : List Nat) : RS := (j, R.2.1, R.2.2.1, R.2.2.2.1, R.2.2.2.2.1, R.2.2.2.2.2.1, rToks T (j - R.1) R.1 (rCds cs R.2.2.2.2.2.2))
section
variable {ho cd tl : Nat} {mo un ri : Int32} {lo co cf ct tx tf tt : Nat → Int32} {c : Int32} {X : Nat → Int32} {b e : Nat}
theorem ssc_no (h : ho = 0 ∨ 520 ≤ cd) : SS.code (ho, mo, un, ri, cd, tl, lo, co, cf, ct, tx, tf, tt) c = (ho, mo, un, ri, cd, tl, lo, co, cf, ct, tx, tf, tt) := if_pos h
theorem ssc_ok (h : ¬ (ho = 0 ∨ 520 ≤ cd)) : SS.code (ho, mo, un, ri, cd, tl, lo, co, cf, ct, tx, tf, tt) c = (ho, mo, un, ri, cd + 1, tl, if nI 10000 ≤ c ∧ c < nI 20000 then va_up lo (ho - 1) (lo (ho - 1) ||| (nI 1 <<< ((c - nI 10000) &&& 31))) else lo, va_up co cd c, cf, va_up ct (ho - 1) (nI (cd + 1)), tx, tf, tt) := if_neg h
theorem sst_no (h : ho = 0 ∨ e ≤ b ∨ 1000 ≤ tl + e - b) : SS.token (ho, mo, un, ri, cd, tl, lo, co, cf, ct, tx, tf, tt) X b e = (ho, mo, un, ri, cd, tl, lo, co, cf, ct, tx, tf, tt) := if_pos h
theorem sst_sp (h : ¬ (ho = 0 ∨ e ≤ b ∨ 1000 ≤ tl + e - b)) (h2 : (!decide (nI tl = tf (ho - 1)) && wdl (X b) && wdl (tx (tl - 1))) = true) : SS.token (ho, mo, un, ri, cd, tl, lo, co, cf, ct, tx, tf, tt) X b e = (ho, mo, un, ri, cd, tl + 1 + (e - b), lo, co, cf, ct, va_cpy X (va_up tx tl (nI 32)) b (tl + 1) (e - b), tf, va_up tt (ho - 1) (nI (tl + 1 + (e - b)))) := (if_neg h).trans (if_pos h2)
theorem sst_ns (h : ¬ (ho = 0 ∨ e ≤ b ∨ 1000 ≤ tl + e - b)) (h2 : ¬ (!decide (nI tl = tf (ho - 1)) && wdl (X b) && wdl (tx (tl - 1))) = true) : SS.token (ho, mo, un, ri, cd, tl, lo, co, cf, ct, tx, tf, tt) X b e = (ho, mo, un, ri, cd, tl + (e - b), lo, co, cf, ct, va_cpy X tx b tl (e - b), tf, va_up tt (ho - 1) (nI (tl + (e - b)))) := (if_neg h).trans (if_neg h2)
end
theorem SS.ct (q : SS) (c : Int32) (X : Nat → Int32) (b e : Nat) : SS.token (SS.code q c) X b e = SS.code (SS.token q X b e) c := by
  obtain ⟨ho, mo, un, ri, cd, tl, lo, co, cf, ct, tx, tf, tt⟩ := q
  by_cases h1 : ho = 0 ∨ 520 ≤ cd
  · rw [ssc_no h1]
    by_cases h2 : ho = 0 ∨ e ≤ b ∨ 1000 ≤ tl + e - b
    · rw [sst_no h2, ssc_no h1]
    · by_cases h3 : (!decide (nI tl = tf (ho - 1)) && wdl (X b) && wdl (tx (tl - 1))) = true
      · rw [sst_sp h2 h3, ssc_no h1]
      · rw [sst_ns h2 h3, ssc_no h1]
  · rw [ssc_ok h1]
    by_cases h2 : ho = 0 ∨ e ≤ b ∨ 1000 ≤ tl + e - b
    · rw [sst_no h2, sst_no h2, ssc_ok h1]
    · by_cases h3 : (!decide (nI tl = tf (ho - 1)) && wdl (X b) && wdl (tx (tl - 1))) = true
      · rw [sst_sp h2 h3, sst_sp h2 h3, ssc_ok h1]
      · rw [sst_ns h2 h3, sst_ns h2 h3, ssc_ok h1]
theorem rCds_t (X : Nat → Int32) (b e : Nat) : ∀ (cs : List Nat) (q : SS), SS.token (rCds cs q) X b e = rCds cs (SS.token q X b e)
  | [], q => rfl
  | c :: t, q => by
    show SS.token (rCds t (SS.code q (nI c))) X b e = rCds t (SS.code (SS.token q X b e) (nI c))
    rw [rCds_t X b e t, SS.ct]
theorem rToks_c (T : RT) (cs : List Nat) : ∀ (n i : Nat) (q : SS), rToks T n i (rCds cs q) = rCds cs (rToks T n i q)
  | 0, i, q => rfl
  | n + 1, i, q => by
    show rToks T n (i + 1) (SS.token (rCds cs q) _ _ _) = rCds cs (rToks T n (i + 1) (SS.token q _ _ _))
    rw [rCds_t, rToks_c T cs n]
theorem rToks_add (T : RT) : ∀ (a b i : Nat) (q : SS), rToks T (a + b) i q = rToks T b (i + a) (rToks T a i q)
  | 0, b, i, q => by rw [Nat.zero_add]; rfl
  | a + 1, b, i, q => by
    rw [show a + 1 + b = (a + b) + 1 by omega]
    show rToks T (a + b) (i + 1) _ = rToks T b (i + (a + 1)) (rToks T a (i + 1) _)
    rw [rToks_add T a b (i + 1), show i + 1 + a = i + (a + 1) by omega]
theorem rCds_app : ∀ (a b : List Nat) (q : SS), rCds (a ++ b) q = rCds b (rCds a q)
  | [], b, q => rfl
  | c :: t, b, q => rCds_app t b (SS.code q (nI c))
theorem rGo_go {T : RT} {R : RS} {j j2 : Nat} {cs c2 : List Nat} (h1 : R.1 ≤ j) (h2 : j ≤ j2) : rGo T (rGo T R j cs) j2 c2 = rGo T R j2 (cs ++ c2) := by
  unfold rGo
  dsimp only
  rw [show j2 - R.1 = (j - R.1) + (j2 - j) by omega, rToks_add, show R.1 + (j - R.1) = j by omega, rCds_app, rToks_c T c2 (j - R.1) R.1 (rCds cs _)]
theorem rGo_0 {T : RT} {R : RS} : rGo T R R.1 [] = R := by
  unfold rGo
  rw [Nat.sub_self]
  rfl
theorem rCode_go {T : RT} {R : RS} {c : Nat} {x : Int32} (hx : x = nI c) : rCode x R = rGo T R R.1 [c] := by
  unfold rCode rGo rSt
  rw [Nat.sub_self, hx]
  rfl
theorem rTake_go {T : RT} {R : RS} (h : R.1 + 1 < T.2.1) : rTake T R = rGo T R (R.1 + 1) [] := by
  unfold rTake rNx rTok rSt rGo
  dsimp only
  rw [if_pos h, show R.1 + 1 - R.1 = 1 by omega]
  rfl
theorem rk_go {T : RT} {R : RS} {j : Nat} {cs : List Nat} : rk T (rGo T R j cs) = tkK T j := rfl
theorem rf_go {T : RT} {R : RS} {j : Nat} {cs : List Nat} : rf (rGo T R j cs) = rf R := rfl
/-- what is known of tokens -/
def tkG (T : RT) : Prop := tkW T ∧ (∀ i, ¬ tkK T i = nI 0 → i + 1 < T.2.1) ∧ ∀ i, tkK T i = nI 2 → tkL T i ≤ 4 → ¬ tkV T i < nI 0 ∧ ¬ nI 9999 < tkV T i
def sRel (T : RT) (R S : RS) (r : PR) : Prop := (r.1 = 0 → R.1 ≤ r.2.1 ∧ S = rGo T R r.2.1 r.2.2) ∧ (¬ r.1 = 0 → rf S = nI r.1 ∧ S.2.2.1 = nI (T.2.2.2.1 r.2.1) ∧ r.1 < 4)
/-- a fault stays -/
def Stk (f : RS → RS) : Prop := ∀ R, ¬ rf R = 0 → rf (f R) = rf R ∧ (f R).2.2.1 = R.2.2.1
theorem stk_nx (T : RT) : Stk (rNx T) := fun R h => by unfold rNx; split <;> exact ⟨rfl, rfl⟩
theorem stk_take (T : RT) : Stk (rTake T) := fun R h => stk_nx T (rTok T R) h
theorem stk_code (c : Int32) : Stk (rCode c) := fun R h => ⟨rfl, rfl⟩
theorem stk_fail (T : RT) (f : Int32) : Stk (rFail T f) := fun R h => by unfold rFail; rw [if_neg (show ¬ R.2.1 = 0 from h)]; exact ⟨rfl, rfl⟩
theorem Stk.tr {f g : RS → RS} (hf : Stk f) (hg : Stk g) : Stk (fun R => g (f R)) := fun R h => by
  have a := hf R h
  have b := hg (f R) (by rw [a.1]; exact h)
  exact ⟨b.1.trans a.1, b.2.trans a.2⟩
theorem stk_loop {T : RT} {is : Int32 → Bool} {cd : Int32 → Int32} {sub : RS → RS} : ∀ k, Stk (rLoop T is cd sub k)
  | 0 => fun R h => ⟨rfl, rfl⟩
  | k + 1 => fun R h => by
    unfold rLoop
    rw [if_neg (fun q => h q.2)]
    exact ⟨rfl, rfl⟩
theorem stk_codes (c : Int32) : ∀ k, Stk (rCodes c k)
  | 0 => fun R h => ⟨rfl, rfl⟩
  | k + 1 => fun R h => stk_codes c k (rCode c R) h
theorem stk_part {T : RT} {h : Nat} {E : RS → RS} : Stk (rPart T h E) := fun R hR => by
  unfold rPart
  rw [if_pos hR]
  exact ⟨rfl, rfl⟩
theorem stk_prod {T : RT} {h : Nat} {E : RS → RS} : Stk (rProd T h E) := (stk_part (T := T) (h := h) (E := E)).tr (stk_loop 500)
theorem stk_sum {T : RT} {h : Nat} {E : RS → RS} : Stk (rSum T h E) := (stk_prod (T := T) (h := h) (E := E)).tr (stk_loop 500)
theorem stk_test2 {T : RT} {h : Nat} {E : RS → RS} : Stk (rTest2 T h E) := fun R hR => by
  unfold rTest2
  rw [if_neg (fun q => hR q.2)]
  exact ⟨rfl, rfl⟩
theorem stk_test {T : RT} {h : Nat} {E : RS → RS} : Stk (rTest T h E) := (stk_sum (T := T) (h := h) (E := E)).tr stk_test2
theorem nots_bad {T : RT} : ∀ (k m : Nat) (R : RS), ¬ rf R = 0 → rNots T k m R = (m, R)
  | 0, m, R, h => rfl
  | k + 1, m, R, h => by unfold rNots; rw [if_neg (fun q => h q.2)]
theorem stk_not {T : RT} {h : Nat} {E : RS → RS} : Stk (rNot T h E) := fun R hR => by
  unfold rNot
  rw [nots_bad 7 0 R hR]
  exact stk_test R hR
theorem stk_both {T : RT} {h : Nat} {E : RS → RS} : Stk (rBoth T h E) := (stk_not (T := T) (h := h) (E := E)).tr (stk_loop 500)
theorem stk_expr {T : RT} {h : Nat} : ∀ k, Stk (rExpr T h k)
  | 0 => fun R h => stk_fail T _ R h
  | k + 1 => (stk_both (T := T) (h := h) (E := rExpr T h k)).tr (stk_loop 500)
theorem nI_lt4 {f : Nat} (h0 : ¬ f = 0) (h : f < 4) : ¬ nI f = 0 := fun q => h0 ((z_eq (by omega)).mp q)
/-- behind a fault, what stays -/
theorem sRel.bad {T : RT} {R S : RS} {r : PR} {f : RS → RS} (hf : Stk f) (h0 : ¬ r.1 = 0) (h : sRel T R S r) : sRel T R (f S) (r.1, r.2.1, []) := by
  obtain ⟨a, b, c⟩ := h.2 h0
  have := hf S (by rw [a]; exact nI_lt4 h0 c)
  exact ⟨fun q => absurd q h0, fun _ => ⟨this.1.trans a, this.2.trans b, c⟩⟩
theorem sRel.fail {T : RT} {R : RS} {j f : Nat} {cs : List Nat} (hR : rf R = 0) (h0 : ¬ f = 0) (h4 : f < 4) : sRel T R (rFail T (nI f) (rGo T R j cs)) (f, j, []) := by
  refine ⟨fun q => absurd q h0, fun _ => ?_⟩
  unfold rFail
  rw [if_pos (show (rGo T R j cs).2.1 = 0 from hR)]
  exact ⟨rfl, rfl, h4⟩
/-- one behind the other -/
theorem sRel.thn {T : RT} {R S : RS} {r : PR} {f : RS → RS} {g : Nat → List Nat → PR} (hf : Stk f) (h : sRel T R S r) (h2 : ∀ j cs, R.1 ≤ j → sRel T R (f (rGo T R j cs)) (g j cs)) : sRel T R (f S) (pThen r g) := by
  unfold pThen
  by_cases h0 : r.1 = 0
  · rw [if_pos h0]
    obtain ⟨h3, h4⟩ := h.1 h0
    rw [h4]
    exact h2 _ _ h3
  · rw [if_neg h0]
    exact h.bad hf h0
theorem sRel.go {T : RT} {R S : RS} {j : Nat} {cs : List Nat} {r : PR} (hj : R.1 ≤ j) (h : sRel T (rGo T R j cs) S r) : sRel T R S (r.1, r.2.1, cs ++ r.2.2) := by
  refine ⟨fun q => ?_, h.2⟩
  obtain ⟨a, b⟩ := h.1 q
  have a : j ≤ r.2.1 := a
  refine ⟨by show R.1 ≤ r.2.1; omega, b.trans (rGo_go hj a)⟩
theorem loop_rel {T : RT} {is : Int32 → Bool} {cd : Int32 → Int32} {cdn : Int32 → Nat} {sub : RS → RS} {sp : Nat → PR} (hT : tkG T) (hi0 : is (nI 0) = false) (hcd : ∀ k, cd k = nI (cdn k)) (hs : Stk sub) (hsub : ∀ R, rf R = 0 → sRel T R (sub R) (sp R.1)) : ∀ (k j : Nat) (cs : List Nat) (R : RS), rf R = 0 → R.1 ≤ j → sRel T R (rLoop T is cd sub k (rGo T R j cs)) (pLoop T is cdn sp k j cs)
  | 0, j, cs, R, hR, hj => ⟨fun _ => ⟨hj, rfl⟩, fun q => absurd rfl q⟩
  | k + 1, j, cs, R, hR, hj => by
    unfold rLoop pLoop
    rw [rk_go, rf_go]
    by_cases hc : is (tkK T j) = true
    · rw [if_pos ⟨hc, hR⟩, if_pos hc]
      have hlt : j + 1 < T.2.1 := hT.2.1 j (fun q => by rw [q, hi0] at hc; exact absurd hc (by decide))
      have ht : rTake T (rGo T R j cs) = rGo T R (j + 1) cs := by
        rw [rTake_go (show (rGo T R j cs).1 + 1 < T.2.1 from hlt)]
        show rGo T (rGo T R j cs) (j + 1) [] = _
        rw [rGo_go hj (Nat.le_succ j), List.append_nil]
      rw [ht]
      have h1 := hsub (rGo T R (j + 1) cs) hR
      have h1 : sRel T (rGo T R (j + 1) cs) (sub (rGo T R (j + 1) cs)) (sp (j + 1)) := h1
      unfold pThen
      by_cases h0 : (sp (j + 1)).1 = 0
      · rw [if_pos h0]
        obtain ⟨h3, h4⟩ := h1.1 h0
        have h3 : j + 1 ≤ (sp (j + 1)).2.1 := h3
        rw [h4, rGo_go (by omega) h3, rCode_go (T := T) (hcd (tkK T j))]
        show sRel T R (rLoop T is cd sub k (rGo T (rGo T R (sp (j + 1)).2.1 _) (sp (j + 1)).2.1 _)) _
        rw [rGo_go (by omega) (Nat.le_refl _)]
        exact loop_rel hT hi0 hcd hs hsub k _ _ R hR (by omega)
      · rw [if_neg h0]
        have h5 := (h1.bad (f := fun S => rLoop T is cd sub k (rCode (cd (tkK T j)) S)) ((stk_code _).tr (stk_loop k)) h0)
        exact ⟨fun q => absurd q h0, h5.2⟩
    · rw [if_neg (fun q => hc q.1), if_neg hc]
      exact ⟨fun _ => ⟨hj, rfl⟩, fun q => absurd rfl q⟩
theorem num_bad1 {T : RT} {R : RS} {lo hi : Int32} (hR : rf R = 0) (hk : ¬ tkK T R.1 = nI 2) : rNumR T lo hi R = rFail T (nI 1) R := by
  unfold tkK at hk
  unfold rNumR rk
  rw [if_neg (fun q => q hR), if_pos hk]
theorem num_bad2 {T : RT} {R : RS} {lo hi : Int32} (hR : rf R = 0) (hk : tkK T R.1 = nI 2) (hl : 4 < tkL T R.1) : rNumR T lo hi R = rFail T (nI 2) R := by
  unfold tkK at hk
  unfold tkL at hl
  unfold rNumR rk
  rw [if_neg (fun q => q hR), if_neg (fun q => q hk), if_pos hl]
theorem num_bad3 {T : RT} {R : RS} {lo hi : Int32} (hR : rf R = 0) (hk : tkK T R.1 = nI 2) (hl : ¬ 4 < tkL T R.1) (hv : tkV T R.1 < lo ∨ hi < tkV T R.1) : rNumR T lo hi R = rFail T (nI 2) R := by
  unfold tkV at hv
  unfold tkK at hk
  unfold tkL at hl hv
  unfold rNumR rk
  rw [if_neg (fun q => q hR), if_neg (fun q => q hk), if_neg hl, if_pos hv]
theorem num_ok {T : RT} {R : RS} {lo hi : Int32} (hR : rf R = 0) (hk : tkK T R.1 = nI 2) (hl : ¬ 4 < tkL T R.1) (hv : ¬ (tkV T R.1 < lo ∨ hi < tkV T R.1)) : rNumR T lo hi R = R ∧ rNumV T lo hi R = tkV T R.1 := by
  unfold tkV
  unfold tkV at hv
  unfold tkK at hk
  unfold tkL at hl hv ⊢
  unfold rNumR rNumV rk
  rw [if_neg (fun q => q hR), if_neg (fun q => q hk), if_neg hl, if_neg hv, if_neg (fun q => q hR), if_neg (fun q => q hk), if_neg hl, if_neg hv]
  exact ⟨rfl, rfl⟩
theorem sRel.fail0 {T : RT} {R : RS} {f : Nat} (hR : rf R = 0) (h0 : ¬ f = 0) (h4 : f < 4) : sRel T R (rFail T (nI f) R) (f, R.1, []) := by
  have h := sRel.fail (T := T) (R := R) (j := R.1) (cs := []) hR h0 h4
  rw [rGo_0] at h
  exact h
theorem stk_close (T : RT) : Stk (rClose T) := fun R h => by
  unfold rClose
  rw [if_neg (fun q => h q.1)]
  exact ⟨rfl, rfl⟩
theorem take_code {T : RT} {R : RS} {c : Nat} {x : Int32} (hx : x = nI c) (h : R.1 + 1 < T.2.1) : rTake T (rCode x R) = rGo T R (R.1 + 1) [c] := by
  rw [rCode_go (T := T) hx, rTake_go (show (rGo T R R.1 [c]).1 + 1 < T.2.1 from h)]
  show rGo T (rGo T R R.1 [c]) (R.1 + 1) [] = _
  rw [rGo_go (Nat.le_refl _) (Nat.le_succ _)]
  rfl
theorem part_rel {T : RT} {h : Nat} {E : RS → RS} {Ep : Nat → PR} (hT : tkG T) (hES : Stk E) (hE : ∀ R, rf R = 0 → sRel T R (E R) (Ep R.1)) : ∀ R, rf R = 0 → sRel T R (rPart T h E R) (pPart T h Ep R.1) := by
  intro R hR
  unfold rPart
  rw [if_neg (fun q => q hR), show rk T R = tkK T R.1 from rfl]
  by_cases h2 : tkK T R.1 = nI 2
  · rw [if_pos h2]
    unfold pPart pAtom
    rw [if_neg (by rw [h2]; decide), if_pos h2]
    by_cases h4 : 4 < tkL T R.1
    · rw [if_pos h4, num_bad2 hR h2 h4]
      exact (sRel.fail0 hR (show ¬ 2 = 0 by decide) (by decide)).bad (f := fun S => rTake T (rCode _ S)) ((stk_code _).tr (stk_take T)) (show ¬ 2 = 0 by decide)
    · have hv := hT.2.2 R.1 h2 (by omega)
      have hn := num_ok (lo := nI 0) (hi := nI 9999) hR h2 h4 (fun q => q.elim hv.1 hv.2)
      rw [if_neg h4, hn.1, hn.2, take_code (nO_eq (tkV T R.1)).symm (hT.2.1 _ (by rw [h2]; decide))]
      exact ⟨fun _ => ⟨Nat.le_succ _, rfl⟩, fun q => absurd rfl q⟩
  · rw [if_neg h2]
    by_cases h141 : tkK T R.1 = nI 141
    · rw [if_pos h141]
      unfold pPart pAtom
      rw [if_neg (by rw [h141]; decide), if_neg h2, if_pos h141, rTake_go (T := T) (R := R) (hT.2.1 _ (by rw [h141]; decide))]
      have hR1 : rf (rGo T R (R.1 + 1) []) = 0 := hR
      have hf : ∀ f : Nat, ¬ f = 0 → f < 4 → ∀ x : Int32, sRel T R (rTake T (rCode x (rFail T (nI f) (rGo T R (R.1 + 1) [])))) (f, R.1 + 1, []) := fun f h0 h4 x => (sRel.fail (cs := []) hR h0 h4).bad (f := fun S => rTake T (rCode x S)) ((stk_code _).tr (stk_take T)) h0
      by_cases k2 : tkK T (R.1 + 1) = nI 2
      · rw [if_neg (fun q => q k2)]
        by_cases h4 : 4 < tkL T (R.1 + 1)
        · rw [if_pos h4, num_bad2 hR1 k2 h4]
          exact hf 2 (by decide) (by decide) _
        · rw [if_neg h4]
          have hv := hT.2.2 (R.1 + 1) k2 (by omega)
          by_cases h7 : nI 7 < tkV T (R.1 + 1)
          · rw [if_pos h7, num_bad3 hR1 k2 h4 (Or.inr h7)]
            exact hf 2 (by decide) (by decide) _
          · have hn := num_ok (lo := nI 0) (hi := nI 7) hR1 k2 h4 (fun q => q.elim hv.1 h7)
            rw [if_neg h7, hn.1, hn.2, take_code (c := 10000 + nO (tkV T (R.1 + 1))) (by rw [← nI_add, nO_eq]; rfl) (hT.2.1 (R.1 + 1) (by rw [k2]; decide))]
            refine ⟨fun _ => ⟨by show R.1 ≤ R.1 + 2; omega, ?_⟩, fun q => absurd rfl q⟩
            show rGo T (rGo T R (R.1 + 1) []) (R.1 + 1 + 1) [_] = _
            rw [rGo_go (Nat.le_succ _) (Nat.le_succ _)]
            rfl
      · rw [if_pos k2, num_bad1 hR1 k2]
        exact hf 1 (by decide) (by decide) _
    · rw [if_neg h141]
      by_cases h40 : tkK T R.1 = nI 40
      · rw [if_pos h40]
        unfold pPart
        rw [if_pos h40, rTake_go (T := T) (R := R) (hT.2.1 _ (by rw [h40]; decide))]
        have h1 := (hE (rGo T R (R.1 + 1) []) hR).go (Nat.le_succ _)
        have h1 : sRel T R (E (rGo T R (R.1 + 1) [])) (Ep (R.1 + 1)) := h1
        refine h1.thn (f := fun S => rTake T (rClose T S)) ((stk_close T).tr (stk_take T)) (fun j cs hj => ?_)
        unfold rClose
        rw [rk_go, rf_go]
        by_cases h41 : tkK T j = nI 41
        · rw [if_neg (fun q => q.2 h41), if_pos h41, rTake_go (show (rGo T R j cs).1 + 1 < T.2.1 from hT.2.1 j (by rw [h41]; decide))]
          refine ⟨fun _ => ⟨Nat.le_succ_of_le hj, ?_⟩, fun q => absurd rfl q⟩
          show rGo T (rGo T R j cs) (j + 1) [] = _
          rw [rGo_go hj (Nat.le_succ _), List.append_nil]
        · rw [if_pos ⟨hR, h41⟩, if_neg h41]
          exact (sRel.fail hR (show ¬ 1 = 0 by decide) (by decide)).bad (f := rTake T) (stk_take T) (show ¬ 1 = 0 by decide)
      · rw [if_neg h40]
        unfold pPart pAtom
        rw [if_neg h40, if_neg h2, if_neg h141]
        by_cases hc : cov (tkK T R.1) h = -1
        · rw [if_neg (show ¬ ¬ cov (tkK T R.1) h = -1 from fun q => q hc), if_neg (show ¬ ¬ cov (tkK T R.1) h = -1 from fun q => q hc)]
          by_cases h128 : tkK T R.1 < nI 128
          · rw [if_pos h128, if_pos h128]
            exact sRel.fail0 hR (by decide) (by decide)
          · rw [if_neg h128, if_neg h128]
            exact sRel.fail0 hR (by decide) (by decide)
        · rw [if_pos (show ¬ cov (tkK T R.1) h = -1 from hc), if_pos (show ¬ cov (tkK T R.1) h = -1 from hc), take_code (nO_eq _).symm (hT.2.1 _ (fun q => hc (by rw [q]; rfl)))]
          exact ⟨fun _ => ⟨Nat.le_succ _, rfl⟩, fun q => absurd rfl q⟩
theorem cd2_n (a u v : Nat) (k : Int32) : cd2 a u v k = nI (cdN a u v k) := by
  unfold cd2 cdN
  split <;> rfl
theorem prod_rel {T : RT} {h : Nat} {E : RS → RS} {Ep : Nat → PR} (hT : tkG T) (hp : ∀ R, rf R = 0 → sRel T R (rPart T h E R) (pPart T h Ep R.1)) : ∀ R, rf R = 0 → sRel T R (rProd T h E R) (pProd T h Ep R.1) := fun R hR => (hp R hR).thn (f := rLoop T (is2 42 47) (cd2 42 20006 20007) (rPart T h E) 500) (stk_loop 500) (fun j cs hj => loop_rel hT (by decide) (cd2_n _ _ _) stk_part hp 500 j cs R hR hj)
theorem sum_rel {T : RT} {h : Nat} {E : RS → RS} {Ep : Nat → PR} (hT : tkG T) (hp : ∀ R, rf R = 0 → sRel T R (rProd T h E R) (pProd T h Ep R.1)) : ∀ R, rf R = 0 → sRel T R (rSum T h E R) (pSum T h Ep R.1) := fun R hR => (hp R hR).thn (f := rLoop T (is2 43 45) (cd2 43 20004 20005) (rProd T h E) 500) (stk_loop 500) (fun j cs hj => loop_rel hT (by decide) (cd2_n _ _ _) stk_prod hp 500 j cs R hR hj)
theorem test_rel {T : RT} {h : Nat} {E : RS → RS} {Ep : Nat → PR} (hT : tkG T) (hp : ∀ R, rf R = 0 → sRel T R (rSum T h E R) (pSum T h Ep R.1)) : ∀ R, rf R = 0 → sRel T R (rTest T h E R) (pTest T h Ep R.1) := by
  intro R hR
  refine (hp R hR).thn (f := rTest2 T h E) stk_test2 (fun j cs hj => ?_)
  unfold rTest2
  rw [rk_go, rf_go]
  by_cases hc : is2 60 61 (tkK T j) = true
  · rw [if_pos ⟨hc, hR⟩, if_pos hc]
    have hlt : j + 1 < T.2.1 := hT.2.1 j (fun q => by rw [q] at hc; exact absurd hc (by decide))
    have ht : rTake T (rGo T R j cs) = rGo T R (j + 1) cs := by
      rw [rTake_go (show (rGo T R j cs).1 + 1 < T.2.1 from hlt)]
      show rGo T (rGo T R j cs) (j + 1) [] = _
      rw [rGo_go hj (Nat.le_succ j), List.append_nil]
    rw [ht]
    have h1 : sRel T (rGo T R (j + 1) cs) (rSum T h E (rGo T R (j + 1) cs)) (pSum T h Ep (j + 1)) := hp (rGo T R (j + 1) cs) hR
    unfold pThen
    by_cases h0 : (pSum T h Ep (j + 1)).1 = 0
    · rw [if_pos h0]
      obtain ⟨h3, h4⟩ := h1.1 h0
      have h3 : j + 1 ≤ (pSum T h Ep (j + 1)).2.1 := h3
      rw [h4, rGo_go (by omega) h3, rCode_go (T := T) (cd2_n 60 20008 20009 (tkK T j))]
      refine ⟨fun _ => ⟨by show R.1 ≤ (pSum T h Ep (j + 1)).2.1; omega, ?_⟩, fun q => absurd rfl q⟩
      show rGo T (rGo T R (pSum T h Ep (j + 1)).2.1 _) (pSum T h Ep (j + 1)).2.1 _ = _
      rw [rGo_go (by omega) (Nat.le_refl _)]
    · rw [if_neg h0]
      have h5 := h1.bad (f := fun S => rCode (cd2 60 20008 20009 (tkK T j)) S) (stk_code _) h0
      exact ⟨fun q => absurd q h0, h5.2⟩
  · rw [if_neg (fun q => hc q.1), if_neg hc]
    exact ⟨fun _ => ⟨hj, rfl⟩, fun q => absurd rfl q⟩
theorem nots_rel {T : RT} (hT : tkG T) : ∀ (k m j : Nat) (R : RS), rf R = 0 → R.1 ≤ j → ((pNots T k m j).1 = 0 → j ≤ (pNots T k m j).2.2 ∧ rNots T k m (rGo T R j []) = ((pNots T k m j).2.1, rGo T R (pNots T k m j).2.2 [])) ∧ (¬ (pNots T k m j).1 = 0 → sRel T R (rNots T k m (rGo T R j [])).2 ((pNots T k m j).1, (pNots T k m j).2.2, []))
  | 0, m, j, R, hR, hj => ⟨fun _ => ⟨Nat.le_refl _, rfl⟩, fun q => absurd rfl q⟩
  | k + 1, m, j, R, hR, hj => by
    unfold rNots pNots
    rw [rk_go, rf_go]
    by_cases hc : tkK T j = nI 135
    · rw [if_pos (show tkK T j = nI 135 ∧ rf R = 0 from ⟨hc, hR⟩), if_pos hc]
      by_cases h6 : m = 6
      · rw [if_pos h6, if_pos h6]
        refine ⟨fun q => absurd q (by show ¬ (2 : Nat) = 0; decide), fun _ => ?_⟩
        have hb : ¬ rf (rFail T (nI 2) (rGo T R j [])) = 0 := by
          have := (sRel.fail (T := T) (R := R) (j := j) (cs := []) (f := 2) hR (by decide) (by decide)).2 (show ¬ 2 = 0 by decide)
          rw [this.1]
          show ¬ nI 2 = 0
          decide
        rw [nots_bad k m _ hb]
        exact sRel.fail hR (by decide) (by decide)
      · rw [if_neg h6, if_neg h6]
        have ht : rTake T (rGo T R j []) = rGo T R (j + 1) [] := by
          rw [rTake_go (show (rGo T R j []).1 + 1 < T.2.1 from hT.2.1 j (by rw [hc]; decide))]
          show rGo T (rGo T R j []) (j + 1) [] = _
          rw [rGo_go hj (Nat.le_succ j), List.append_nil]
        rw [ht]
        have ih := nots_rel hT k (m + 1) (j + 1) R hR (by omega)
        exact ⟨fun q => ⟨by have := (ih.1 q).1; omega, (ih.1 q).2⟩, ih.2⟩
    · rw [if_neg (show ¬ (tkK T j = nI 135 ∧ rf R = 0) from fun q => hc q.1), if_neg hc]
      exact ⟨fun _ => ⟨Nat.le_refl _, rfl⟩, fun q => absurd rfl q⟩
theorem codes_go {T : RT} {R : RS} {c j : Nat} (hj : R.1 ≤ j) : ∀ (n : Nat) (cs : List Nat), rCodes (nI c) n (rGo T R j cs) = rGo T R j (cs ++ List.replicate n c)
  | 0, cs => by rw [List.replicate_zero, List.append_nil]; rfl
  | n + 1, cs => by
    show rCodes (nI c) n (rCode (nI c) (rGo T R j cs)) = _
    rw [rCode_go (T := T) rfl]
    show rCodes (nI c) n (rGo T (rGo T R j cs) j [c]) = _
    rw [rGo_go hj (Nat.le_refl j), codes_go hj n, List.append_assoc]
    rfl
theorem not_rel {T : RT} {h : Nat} {E : RS → RS} {Ep : Nat → PR} (hT : tkG T) (hp : ∀ R, rf R = 0 → sRel T R (rTest T h E R) (pTest T h Ep R.1)) : ∀ R, rf R = 0 → sRel T R (rNot T h E R) (pNot T h Ep R.1) := by
  intro R hR
  have hn := nots_rel hT 7 0 R.1 R hR (Nat.le_refl _)
  rw [rGo_0] at hn
  unfold rNot pNot
  by_cases h0 : (pNots T 7 0 R.1).1 = 0
  · rw [if_pos h0]
    obtain ⟨hj, he⟩ := hn.1 h0
    rw [he]
    have h1 := (hp (rGo T R (pNots T 7 0 R.1).2.2 []) hR).go hj
    have h1 : sRel T R (rTest T h E (rGo T R (pNots T 7 0 R.1).2.2 [])) (pTest T h Ep (pNots T 7 0 R.1).2.2) := h1
    refine h1.thn (f := fun S => rCodes (nI 20003) (pNots T 7 0 R.1).2.1 S) (stk_codes _ _) (fun j cs hj2 => ?_)
    rw [codes_go hj2]
    exact ⟨fun _ => ⟨hj2, rfl⟩, fun q => absurd rfl q⟩
  · rw [if_neg h0]
    exact (hn.2 h0).bad (f := fun S => rCodes (nI 20003) (rNots T 7 0 R).1 (rTest T h E S)) (stk_test.tr (stk_codes _ _)) h0
theorem both_rel {T : RT} {h : Nat} {E : RS → RS} {Ep : Nat → PR} (hT : tkG T) (hp : ∀ R, rf R = 0 → sRel T R (rNot T h E R) (pNot T h Ep R.1)) : ∀ R, rf R = 0 → sRel T R (rBoth T h E R) (pBoth T h Ep R.1) := fun R hR => (hp R hR).thn (f := rLoop T (is1 134) (cd1 20010) (rNot T h E) 500) (stk_loop 500) (fun j cs hj => loop_rel hT (by decide) (fun _ => rfl) stk_not hp 500 j cs R hR hj)
theorem expr_rel {T : RT} {h : Nat} (hT : tkG T) : ∀ (k : Nat) (R : RS), rf R = 0 → sRel T R (rExpr T h k R) (pExpr T h k R.1)
  | 0, R, hR => by
    unfold rExpr pExpr
    rw [show rk T R = tkK T R.1 from rfl]
    by_cases hc : tkK T R.1 = nI 2 ∨ ¬ tkK T R.1 < nI 128 ∨ tkK T R.1 = nI 40
    · rw [if_pos hc, if_pos hc]
      exact sRel.fail0 hR (by decide) (by decide)
    · rw [if_neg hc, if_neg hc]
      exact sRel.fail0 hR (by decide) (by decide)
  | k + 1, R, hR => by
    have hb := both_rel (h := h) hT (not_rel hT (test_rel hT (sum_rel hT (prod_rel hT (part_rel hT (stk_expr k) (expr_rel (h := h) hT k))))))
    exact (hb R hR).thn (f := rLoop T (is1 133) (cd1 20011) (rBoth T h (rExpr T h k)) 500) (stk_loop 500) (fun j cs hj => loop_rel hT (by decide) (fun _ => rfl) stk_both hb 500 j cs R hR hj)

/-! STREET: the grammar, twice: as the class descends, and as the reference's row of waiting acts runs -/
def tkK (T : RT) (i : Nat) : Int32 := T.2.2.1 i
def tkL (T : RT) (i : Nat) : Nat := T.2.2.2.2.1 i - T.2.2.2.1 i
def tkV (T : RT) (i : Nat) : Int32 := nv T.2.2.2.2.2 (T.2.2.2.1 i) (tkL T i)
/-- a fault (0: none), where, codes -/
abbrev PR : Type := Nat × Nat × List Nat
def pAtom (T : RT) (h i : Nat) : PR :=
  if tkK T i = nI 2 then (if 4 < tkL T i then (2, i, []) else (0, i + 1, [nO (tkV T i)]))
  else if tkK T i = nI 141 then (if ¬ tkK T (i + 1) = nI 2 then (1, i + 1, []) else if 4 < tkL T (i + 1) then (2, i + 1, []) else if nI 7 < tkV T (i + 1) then (2, i + 1, []) else (0, i + 2, [10000 + nO (tkV T (i + 1))]))
  else if ¬ cov (tkK T i) h = -1 then (0, i + 1, [nO (cov (tkK T i) h)])
  else (if tkK T i < nI 128 then 1 else 3, i, [])
def pThen (r : PR) (g : Nat → List Nat → PR) : PR := if r.1 = 0 then g r.2.1 r.2.2 else (r.1, r.2.1, [])
def pPart (T : RT) (h : Nat) (E : Nat → PR) (i : Nat) : PR :=
  if tkK T i = nI 40 then pThen (E (i + 1)) (fun j cs => if tkK T j = nI 41 then (0, j + 1, cs) else (1, j, []))
  else pAtom T h i
def pLoop (T : RT) (is : Int32 → Bool) (cd : Int32 → Nat) (sub : Nat → PR) : Nat → Nat → List Nat → PR
  | 0, i, cs => (0, i, cs)
  | k + 1, i, cs => if is (tkK T i) = true then pThen (sub (i + 1)) (fun j c2 => pLoop T is cd sub k j (cs ++ c2 ++ [cd (tkK T i)])) else (0, i, cs)
def cdN (a u v : Nat) (k : Int32) : Nat := if k = nI a then u else v
def cd1N (u : Nat) (_ : Int32) : Nat := u
def pProd (T : RT) (h : Nat) (E : Nat → PR) (i : Nat) : PR := pThen (pPart T h E i) (pLoop T (is2 42 47) (cdN 42 20006 20007) (pPart T h E) 500)
def pSum (T : RT) (h : Nat) (E : Nat → PR) (i : Nat) : PR := pThen (pProd T h E i) (pLoop T (is2 43 45) (cdN 43 20004 20005) (pProd T h E) 500)
def pTest (T : RT) (h : Nat) (E : Nat → PR) (i : Nat) : PR := pThen (pSum T h E i) (fun j cs => if is2 60 61 (tkK T j) = true then pThen (pSum T h E (j + 1)) (fun j2 c2 => (0, j2, cs ++ c2 ++ [cdN 60 20008 20009 (tkK T j)])) else (0, j, cs))
/-- nots: a fault, how many, the token behind -/
def pNots (T : RT) : Nat → Nat → Nat → Nat × Nat × Nat
  | 0, m, i => (0, m, i)
  | k + 1, m, i => if tkK T i = nI 135 then (if m = 6 then (2, m, i) else pNots T k (m + 1) (i + 1)) else (0, m, i)
def pNot (T : RT) (h : Nat) (E : Nat → PR) (i : Nat) : PR := if (pNots T 7 0 i).1 = 0 then pThen (pTest T h E (pNots T 7 0 i).2.2) (fun j cs => (0, j, cs ++ List.replicate (pNots T 7 0 i).2.1 20003)) else ((pNots T 7 0 i).1, (pNots T 7 0 i).2.2, [])
def pBoth (T : RT) (h : Nat) (E : Nat → PR) (i : Nat) : PR := pThen (pNot T h E i) (pLoop T (is1 134) (cd1N 20010) (pNot T h E) 500)
def pExpr (T : RT) (h : Nat) : Nat → Nat → PR
  | 0, i => (if tkK T i = nI 2 ∨ ¬ tkK T i < nI 128 ∨ tkK T i = nI 40 then 2 else 1, i, [])
  | k + 1, i => pThen (pBoth T h (pExpr T h k) i) (pLoop T (is1 133) (cd1N 20011) (pBoth T h (pExpr T h k)) 500)
/-- the machine: mode (0, 1: an operand, 2: behind one, 3: a fault, 4: done), nots or fault, token, codes, what waits, tested -/
abbrev Cf : Type := Nat × Nat × Nat × List Nat × List Nat × (Nat → Bool)
def stN (c : Nat) : Nat := if c = 20011 then 1 else if c = 20010 then 2 else if c = 20003 then 3 else if c = 20008 ∨ c = 20009 then 4 else if c = 20004 ∨ c = 20005 then 5 else 6
def opens : List Nat → Nat
  | [] => 0
  | x :: t => (if x = 0 then 1 else 0) + opens t
def drpW (least : Nat) : List Nat → List Nat × List Nat
  | [] => ([], [])
  | x :: t => if ¬ x = 0 ∧ least ≤ stN x then (x :: (drpW least t).1, (drpW least t).2) else ([], x :: t)
def upT (te : Nat → Bool) (d : Nat) (b : Bool) : Nat → Bool := fun j => if j = d then b else te j
def stO (T : RT) (h md c i : Nat) (out w : List Nat) (te : Nat → Bool) : Cf :=
  if md = 1 ∧ tkK T i = nI 135 then (if c = 6 then (3, 2, i, out, w, te) else (1, c + 1, i + 1, out, 20003 :: w, te))
  else if tkK T i = nI 40 then (if opens w + 1 < 6 then (1, 0, i + 1, out, 0 :: w, upT te (opens w + 2) false) else (3, if tkK T (i + 1) = nI 2 ∨ ¬ tkK T (i + 1) < nI 128 ∨ tkK T (i + 1) = nI 40 then 2 else 1, i + 1, out, 0 :: w, te))
  else if (pAtom T h i).1 = 0 then (2, 0, (pAtom T h i).2.1, out ++ (pAtom T h i).2.2, w, te) else (3, (pAtom T h i).1, (pAtom T h i).2.1, out, w, te)
def stA (T : RT) (i : Nat) (out w : List Nat) (te : Nat → Bool) : Cf :=
  if tkK T i = nI 134 then (1, 0, i + 1, out ++ (drpW 2 w).1, 20010 :: (drpW 2 w).2, upT te (opens w + 1) false)
  else if tkK T i = nI 133 then (1, 0, i + 1, out ++ (drpW 1 w).1, 20011 :: (drpW 1 w).2, upT te (opens w + 1) false)
  else if (tkK T i = nI 60 ∨ tkK T i = nI 61) ∧ te (opens w + 1) = false then (0, 0, i + 1, out ++ (drpW 4 w).1, cdN 60 20008 20009 (tkK T i) :: (drpW 4 w).2, upT te (opens w + 1) true)
  else if tkK T i = nI 43 ∨ tkK T i = nI 45 then (0, 0, i + 1, out ++ (drpW 5 w).1, cdN 43 20004 20005 (tkK T i) :: (drpW 5 w).2, te)
  else if tkK T i = nI 42 ∨ tkK T i = nI 47 then (0, 0, i + 1, out ++ (drpW 6 w).1, cdN 42 20006 20007 (tkK T i) :: (drpW 6 w).2, te)
  else if tkK T i = nI 41 ∧ 0 < opens w then (2, 0, i + 1, out ++ (drpW 0 w).1, (drpW 0 w).2.tail, te)
  else if 0 < opens w then (3, 1, i, out, w, te) else (4, 0, i, out ++ (drpW 0 w).1, (drpW 0 w).2, te)
def stp (T : RT) (h : Nat) (C : Cf) : Cf := match C with
  | (md, c, i, out, w, te) => if md < 2 then stO T h md c i out w te else if md = 2 then stA T i out w te else (md, c, i, out, w, te)
def itr (f : Cf → Cf) : Nat → Cf → Cf
  | 0, C => C
  | n + 1, C => itr f n (f C)
def Rch (T : RT) (h : Nat) (C D : Cf) : Prop := ∃ n, itr (stp T h) n C = D
theorem itr_add (f : Cf → Cf) : ∀ (a b : Nat) (C : Cf), itr f (a + b) C = itr f b (itr f a C)
  | 0, b, C => by rw [Nat.zero_add]; rfl
  | a + 1, b, C => by rw [show a + 1 + b = (a + b) + 1 by omega]; exact itr_add f a b (f C)
theorem Rch.rf {T : RT} {h : Nat} {C : Cf} : Rch T h C C := ⟨0, rfl⟩
theorem Rch.tr {T : RT} {h : Nat} {C D E : Cf} (a : Rch T h C D) (b : Rch T h D E) : Rch T h C E := by
  obtain ⟨n, rfl⟩ := a
  obtain ⟨k, rfl⟩ := b
  exact ⟨n + k, itr_add _ n k C⟩
theorem Rch.st {T : RT} {h : Nat} {C D : Cf} (a : Rch T h (stp T h C) D) : Rch T h C D := by
  obtain ⟨n, rfl⟩ := a
  exact ⟨n + 1, rfl⟩
def okTop (L : Nat) (w : List Nat) : Prop := ∀ x, w.head? = some x → x = 0 ∨ stN x < L
theorem drpW_app {L : Nat} {w : List Nat} (hw : okTop L w) : ∀ (p : List Nat), (∀ x ∈ p, ¬ x = 0 ∧ L ≤ stN x) → drpW L (p ++ w) = (p, w)
  | [], _ => by
    cases w with
    | nil => rfl
    | cons x t =>
      show (if ¬ x = 0 ∧ L ≤ stN x then _ else ([], x :: t)) = ([], x :: t)
      have := hw x rfl
      rw [if_neg (by omega)]
  | x :: t, h => by
    show (if ¬ x = 0 ∧ L ≤ stN x then (x :: (drpW L (t ++ w)).1, (drpW L (t ++ w)).2) else _) = _
    rw [if_pos (h x List.mem_cons_self), drpW_app hw t (fun y hy => h y (List.mem_cons_of_mem _ hy))]
theorem opens_app {w : List Nat} : ∀ (p : List Nat), (∀ x ∈ p, ¬ x = 0) → opens (p ++ w) = opens w
  | [], _ => rfl
  | x :: t, h => by
    show (if x = 0 then 1 else 0) + opens (t ++ w) = opens w
    rw [if_neg (h x List.mem_cons_self), opens_app t (fun y hy => h y (List.mem_cons_of_mem _ hy)), Nat.zero_add]
/-- tokens as they are -/
def tkW (T : RT) : Prop := T.2.1 ≤ 501 ∧ (∀ i, T.2.1 ≤ i + 1 → tkK T i = nI 0)
/-- what a part of the grammar does to the machine: from token i, with w waiting, D open, its acts as strong as L or stronger -/
def rsX (T : RT) (h L D q i : Nat) (C : Cf) (out w : List Nat) (te : Nat → Bool) (Z : Nat → (Nat → Bool) → Prop) (r : PR) : Prop := (¬ r.1 = 0 → ∃ o2 w2 t2, Rch T h C (3, r.1, r.2.1, o2, w2, t2)) ∧ (r.1 = 0 → i < r.2.1 ∧ ∃ o2 p t2, Rch T h C (2, 0, r.2.1, o2, p ++ w, t2) ∧ o2 ++ p = out ++ r.2.2 ∧ (∀ x ∈ p, ¬ x = 0 ∧ L ≤ stN x) ∧ (∀ d, d ≤ D + q → t2 d = te d) ∧ Z r.2.1 t2)
/-- a part that begins with an operand without nots -/
def Sm0 (T : RT) (h L D : Nat) (Z : Nat → (Nat → Bool) → Prop) (pX : Nat → PR) : Prop := ∀ (i md c : Nat) (out w : List Nat) (te : Nat → Bool), opens w = D → okTop L w → (md = 0 ∨ (md = 1 ∧ ¬ tkK T i = nI 135)) → rsX T h L D 1 i (md, c, i, out, w, te) out w te Z (pX i)
def Sm0T (T : RT) (h L D : Nat) (Z : Nat → (Nat → Bool) → Prop) (pX : Nat → PR) : Prop := ∀ (i md c : Nat) (out w : List Nat) (te : Nat → Bool), opens w = D → okTop L w → te (D + 1) = false → (md = 0 ∨ (md = 1 ∧ ¬ tkK T i = nI 135)) → rsX T h L D 0 i (md, c, i, out, w, te) out w te Z (pX i)
/-- a part that may begin with nots -/
def Sm1 (T : RT) (h L D : Nat) (Z : Nat → (Nat → Bool) → Prop) (pX : Nat → PR) : Prop := ∀ (i : Nat) (out w : List Nat) (te : Nat → Bool), opens w = D → okTop L w → te (D + 1) = false → rsX T h L D 0 i (1, 0, i, out, w, te) out w te Z (pX i)
theorem okTop.up {L L' : Nat} {w : List Nat} (h : L ≤ L') (hw : okTop L w) : okTop L' w := fun x hx => (hw x hx).imp id (fun a => by omega)
theorem okTop.cons {L x : Nat} {w : List Nat} (h : x = 0 ∨ stN x < L) : okTop L (x :: w) := fun y hy => by
  cases hy
  exact h
theorem opens_cons {x : Nat} {w : List Nat} (h : ¬ x = 0) : opens (x :: w) = opens w := by
  show (if x = 0 then 1 else 0) + opens w = opens w
  rw [if_neg h, Nat.zero_add]
/-- a loop of acts of one strength -/
theorem loop_sim {T : RT} {h L D q : Nat} {w : List Nat} {is : Int32 → Bool} {cd : Int32 → Nat} {sub : Nat → PR} {Z : Nat → (Nat → Bool) → Prop} {nt : Bool} (hT : tkW T) (hD : opens w = D) (hw : okTop L w) (hcd : ∀ k, ¬ cd k = 0 ∧ (is k = true → stN (cd k) = L)) (hi0 : is (nI 0) = false)
  (hst : ∀ (i : Nat) (out w2 : List Nat) (te : Nat → Bool), opens w2 = D → is (tkK T i) = true → Z i te → stp T h (2, 0, i, out, w2, te) = (if nt = true then 1 else 0, 0, i + 1, out ++ (drpW L w2).1, cd (tkK T i) :: (drpW L w2).2, if nt = true then upT te (D + 1) false else te))
  (hsub : ∀ (i : Nat) (out w2 : List Nat) (te : Nat → Bool), opens w2 = D → okTop (L + 1) w2 → (nt = true → te (D + 1) = false) → rsX T h (L + 1) D q i (if nt = true then 1 else 0, 0, i, out, w2, te) out w2 te Z (sub i)) (hq : nt = true → q = 0) :
  ∀ (k i : Nat) (cs out p : List Nat) (te : Nat → Bool) (out0 : List Nat) (te0 : Nat → Bool) (i0 : Nat) (C : Cf), T.2.1 ≤ i + k → i0 < i → Rch T h C (2, 0, i, out, p ++ w, te) → out ++ p = out0 ++ cs → (∀ x ∈ p, ¬ x = 0 ∧ L ≤ stN x) → (∀ d, d ≤ D + q → te d = te0 d) → Z i te → rsX T h L D q i0 C out0 w te0 (fun j t2 => Z j t2 ∧ is (tkK T j) = false) (pLoop T is cd sub k i cs) := by
  intro k
  induction k with
  | zero =>
    intro i cs out p te out0 te0 i0 C hk hi hR ho hp ht hz
    refine ⟨fun a => absurd rfl a, fun _ => ⟨hi, out, p, te, hR, ho, hp, ht, hz, ?_⟩⟩
    show is (tkK T i) = false
    rw [hT.2 i (by omega)]; exact hi0
  | succ k ih =>
    intro i cs out p te out0 te0 i0 C hk hi hR ho hp ht hz
    unfold pLoop
    by_cases hc : is (tkK T i) = true
    · rw [if_pos hc]
      have hd := drpW_app hw p hp
      have hop : opens (p ++ w) = D := (opens_app p (fun x hx => (hp x hx).1)).trans hD
      have hs := hst i out (p ++ w) te hop hc hz
      rw [hd] at hs
      have hs2 := hsub (i + 1) (out ++ p) (cd (tkK T i) :: w) (if nt = true then upT te (D + 1) false else te) ((opens_cons (hcd _).1).trans hD) (okTop.cons (Or.inr (by rw [(hcd _).2 hc]; omega))) (fun hn => by rw [if_pos hn]; unfold upT; rw [if_pos rfl])
      have hR2 : Rch T h C (if nt = true then 1 else 0, 0, i + 1, out ++ p, cd (tkK T i) :: w, if nt = true then upT te (D + 1) false else te) := hR.tr (Rch.st (by rw [hs]; exact Rch.rf))
      unfold pThen
      by_cases h0 : (sub (i + 1)).1 = 0
      · rw [if_pos h0]
        obtain ⟨hj, o2, p2, t2, r1, r2, r3, r4, r5⟩ := hs2.2 h0
        refine ih (sub (i + 1)).2.1 _ o2 (p2 ++ [cd (tkK T i)]) t2 out0 te0 i0 C (by omega) (by omega) ?_ ?_ ?_ ?_ r5
        · rw [List.append_assoc]; exact hR2.tr r1
        · rw [← List.append_assoc, r2, ho]; simp
        · intro x hx
          rcases List.mem_append.mp hx with y | y
          · have := r3 x y; exact ⟨this.1, by omega⟩
          · rw [List.mem_singleton.mp y]
            exact ⟨(hcd _).1, by rw [(hcd _).2 hc]; exact Nat.le_refl _⟩
        · intro d hd2
          rw [r4 d hd2]
          by_cases hn : nt = true
          · rw [if_pos hn]
            unfold upT
            have := hq hn
            rw [if_neg (by omega)]
            exact ht d hd2
          · rw [if_neg hn]; exact ht d hd2
      · rw [if_neg h0]
        obtain ⟨o2, w2, t2, r1⟩ := hs2.1 h0
        exact ⟨fun _ => ⟨o2, w2, t2, hR2.tr r1⟩, fun a => absurd a h0⟩
    · rw [if_neg hc]
      exact ⟨fun a => absurd rfl a, fun _ => ⟨hi, out, p, te, hR, ho, hp, ht, hz, eq_false_of_ne_true hc⟩⟩
/-- a first part, and a loop behind it -/
theorem then_sim {T : RT} {h L D q i : Nat} {C : Cf} {out w : List Nat} {te : Nat → Bool} {Z Z2 : Nat → (Nat → Bool) → Prop} {r : PR} {g : Nat → List Nat → PR} (h1 : rsX T h (L + 1) D q i C out w te Z r) (h2 : ∀ (j : Nat) (cs o2 p : List Nat) (t2 : Nat → Bool), i < j → Rch T h C (2, 0, j, o2, p ++ w, t2) → o2 ++ p = out ++ cs → (∀ x ∈ p, ¬ x = 0 ∧ L + 1 ≤ stN x) → (∀ d, d ≤ D + q → t2 d = te d) → Z j t2 → rsX T h L D q i C out w te Z2 (g j cs)) : rsX T h L D q i C out w te Z2 (pThen r g) := by
  unfold pThen
  by_cases h0 : r.1 = 0
  · rw [if_pos h0]
    obtain ⟨hj, o2, p2, t2, r1, r2, r3, r4, r5⟩ := h1.2 h0
    exact h2 _ _ o2 p2 t2 hj r1 r2 r3 r4 r5
  · rw [if_neg h0]
    exact ⟨fun _ => h1.1 h0, fun a => absurd a h0⟩

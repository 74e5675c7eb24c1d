/-! STREET: what the codes of an expression are -/
def okr (cs : List Nat) (d e : Nat) : Prop := ∀ rest, okd rest e → okd (cs ++ rest) d
theorem okr_nil {d : Nat} : okr [] d d := fun _ h => h
theorem okr_app {a b : List Nat} {d e f : Nat} (h : okr a d e) (g : okr b e f) : okr (a ++ b) d f := fun rest hr => by rw [List.append_assoc]; exact h _ (g _ hr)
theorem okr_val {c d : Nat} (hc : c < 20003) (hd : d < 40) : okr [c] d (d + 1) := fun rest hr => by
  show (if c < 20003 then d < 40 else _) ∧ okd rest (dep1 c d)
  rw [if_pos hc]
  unfold dep1
  rw [if_pos hc]
  exact ⟨hd, hr⟩
theorem okr_op {c d : Nat} (hc : 20003 < c ∧ c < 20012) : okr [c] (d + 2) (d + 1) := fun rest hr => by
  show (if c < 20003 then d + 2 < 40 else if c = 20003 then 1 ≤ d + 2 else 2 ≤ d + 2 ∧ c < 20012) ∧ okd rest (dep1 c (d + 2))
  rw [if_neg (by omega), if_neg (by omega)]
  unfold dep1
  rw [if_neg (by omega), if_neg (by omega)]
  exact ⟨⟨by omega, hc.2⟩, hr⟩
theorem okr_not {d : Nat} : okr [20003] (d + 1) (d + 1) := fun rest hr => by
  show (if 20003 < 20003 then d + 1 < 40 else if 20003 = 20003 then 1 ≤ d + 1 else 2 ≤ d + 1 ∧ 20003 < 20012) ∧ okd rest (dep1 20003 (d + 1))
  rw [if_neg (by decide), if_pos rfl]
  exact ⟨by omega, hr⟩
theorem okr_nots {d : Nat} : ∀ n, okr (List.replicate n 20003) (d + 1) (d + 1)
  | 0 => okr_nil
  | n + 1 => okr_app (a := [20003]) okr_not (okr_nots n)
def cOK (c : Nat) : Prop := c < 20012 ∧ (10000 ≤ c → c < 20000 → c < 10009)
def tOK (T : RT) (t : Nat) : Prop := ¬ tkK T t = nI 0 ∧ ¬ tkK T t = nI 1
def PF (T : RT) (B i : Nat) (r : PR) : Prop := r.1 = 0 → i < r.2.1 ∧ r.2.2.length ≤ r.2.1 - i ∧ (∀ c ∈ r.2.2, cOK c) ∧ (∀ d, d + B ≤ 40 → okr r.2.2 d (d + 1)) ∧ ∀ t, i ≤ t → t < r.2.1 → tOK T t
theorem PF.up {T : RT} {B B' i : Nat} {r : PR} (hb : B ≤ B') (h : PF T B i r) : PF T B' i r := fun q => by
  obtain ⟨a, b, c, d, e⟩ := h q
  exact ⟨a, b, c, fun x hx => d x (by omega), e⟩
theorem PF.bad {T : RT} {B i f j : Nat} {cs : List Nat} (h : ¬ f = 0) : PF T B i (f, j, cs) := fun q => absurd q h
theorem PF.thn {T : RT} {B B' i : Nat} {r : PR} {g : Nat → List Nat → PR} (h : PF T B i r) (h2 : ∀ j cs, i < j → cs.length ≤ j - i → (∀ c ∈ cs, cOK c) → (∀ d, d + B ≤ 40 → okr cs d (d + 1)) → (∀ t, i ≤ t → t < j → tOK T t) → PF T B' i (g j cs)) : PF T B' i (pThen r g) := by
  unfold pThen
  by_cases q : r.1 = 0
  · rw [if_pos q]
    obtain ⟨a, b, c, d, e⟩ := h q
    exact h2 _ _ a b c d e
  · rw [if_neg q]
    exact PF.bad q
theorem PF.loop {T : RT} {B i0 : Nat} {is : Int32 → Bool} {cd : Int32 → Nat} {sub : Nat → PR} (his : ∀ k, is k = true → ¬ k = nI 0 ∧ ¬ k = nI 1) (hcd : ∀ k, 20003 < cd k ∧ cd k < 20012) (hs : ∀ i, PF T B i (sub i)) : ∀ (k i : Nat) (cs : List Nat), i0 < i → cs.length ≤ i - i0 → (∀ c ∈ cs, cOK c) → (∀ d, d + (B + 1) ≤ 40 → okr cs d (d + 1)) → (∀ t, i0 ≤ t → t < i → tOK T t) → PF T (B + 1) i0 (pLoop T is cd sub k i cs)
  | 0, i, cs, h1, h2, h3, h4, h5 => fun _ => ⟨h1, h2, h3, h4, h5⟩
  | k + 1, i, cs, h1, h2, h3, h4, h5 => by
    unfold pLoop
    by_cases c : is (tkK T i) = true
    · rw [if_pos c]
      unfold pThen
      by_cases q : (sub (i + 1)).1 = 0
      · rw [if_pos q]
        obtain ⟨a1, a2, a3, a4, a5⟩ := hs (i + 1) q
        have hc := hcd (tkK T i)
        refine PF.loop his hcd hs k _ _ (by omega) ?_ ?_ ?_ ?_
        · simp only [List.length_append, List.length_cons, List.length_nil]
          omega
        · intro x hx
          rcases List.mem_append.mp hx with y | y
          · rcases List.mem_append.mp y with z | z
            · exact h3 x z
            · exact a3 x z
          · rw [List.mem_singleton.mp y]
            exact ⟨hc.2, fun _ z => by omega⟩
        · intro d hd
          exact okr_app (okr_app (h4 d hd) (a4 (d + 1) (by omega))) (okr_op hc)
        · intro t t1 t2
          by_cases r : t < i
          · exact h5 t t1 r
          · by_cases s : t = i
            · rw [s]; exact his _ c
            · exact a5 t (by omega) t2
      · rw [if_neg q]
        exact PF.bad q
    · rw [if_neg c]
      exact fun _ => ⟨h1, h2, h3, h4, h5⟩
theorem cov_ok {k : Int32} {h : Nat} (hh : h < 8) (hc : ¬ cov k h = -1) : nO (cov k h) < 20003 ∧ cOK (nO (cov k h)) ∧ ¬ k = nI 0 ∧ ¬ k = nI 1 := by
  unfold cov at hc ⊢
  by_cases a : k = nI 136
  · rw [if_pos a, nO_nI (by omega)]
    exact ⟨by omega, ⟨by omega, fun _ _ => by omega⟩, by rw [a]; decide, by rw [a]; decide⟩
  rw [if_neg a] at hc ⊢
  by_cases b : k = nI 137
  · rw [if_pos b] at hc ⊢
    refine ⟨?_, ?_, by rw [b]; decide, by rw [b]; decide⟩
    · split
      · decide
      · rw [nO_nI (by omega)]; omega
    · split
      · exact ⟨by decide, fun q => absurd q (by decide)⟩
      · rw [nO_nI (by omega)]; exact ⟨by omega, fun _ _ => by omega⟩
  rw [if_neg b] at hc ⊢
  by_cases c : k = nI 138
  · rw [if_pos c, nO_nI (by omega)]
    exact ⟨by omega, ⟨by omega, fun _ _ => by omega⟩, by rw [c]; decide, by rw [c]; decide⟩
  rw [if_neg c] at hc ⊢
  by_cases d : k = nI 139
  · rw [if_pos d]
    exact ⟨by decide, ⟨by decide, fun _ q => absurd q (by decide)⟩, by rw [d]; decide, by rw [d]; decide⟩
  rw [if_neg d] at hc ⊢
  by_cases e : k = nI 140
  · rw [if_pos e]
    exact ⟨by decide, ⟨by decide, fun _ q => absurd q (by decide)⟩, by rw [e]; decide, by rw [e]; decide⟩
  rw [if_neg e] at hc ⊢
  by_cases f : k = nI 129
  · rw [if_pos f]
    exact ⟨by decide, ⟨by decide, fun _ q => absurd q (by decide)⟩, by rw [f]; decide, by rw [f]; decide⟩
  · rw [if_neg f] at hc
    exact absurd rfl hc
theorem PF.one {T : RT} {i j c : Nat} (hj : i < j) (hc : c < 20003) (ho : cOK c) (ht : ∀ t, i ≤ t → t < j → tOK T t) : PF T 1 i (0, j, [c]) := fun _ => ⟨hj, by show 1 ≤ j - i; omega, fun x hx => by rw [List.mem_singleton.mp hx]; exact ho, fun d hd => okr_val hc (by omega), ht⟩
theorem PF.atom {T : RT} {h i : Nat} (hT : tkG T) (hh : h < 8) : PF T 1 i (pAtom T h i) := by
  unfold pAtom
  by_cases a : tkK T i = nI 2
  · rw [if_pos a]
    by_cases b : 4 < tkL T i
    · rw [if_pos b]; exact PF.bad (by decide)
    · rw [if_neg b]
      have hv := hT.2.2 i a (by omega)
      have hn := nO_le (K := 9999) (by decide) hv.1 hv.2
      exact PF.one (Nat.lt_succ_self i) (by omega) ⟨by omega, fun _ _ => by omega⟩ (fun t t1 t2 => by rw [show t = i by omega]; exact ⟨by rw [a]; decide, by rw [a]; decide⟩)
  · rw [if_neg a]
    by_cases b : tkK T i = nI 141
    · rw [if_pos b]
      by_cases c : tkK T (i + 1) = nI 2
      · rw [if_neg (fun q => q c)]
        by_cases d : 4 < tkL T (i + 1)
        · rw [if_pos d]; exact PF.bad (by decide)
        · rw [if_neg d]
          by_cases e : nI 7 < tkV T (i + 1)
          · rw [if_pos e]; exact PF.bad (by decide)
          · rw [if_neg e]
            have hv := hT.2.2 (i + 1) c (by omega)
            have hn := nO_le (K := 7) (by decide) hv.1 e
            refine PF.one (by omega) (by omega) ⟨by omega, fun _ _ => by omega⟩ (fun t t1 t2 => ?_)
            by_cases q : t = i
            · rw [q]; exact ⟨by rw [b]; decide, by rw [b]; decide⟩
            · rw [show t = i + 1 by omega]; exact ⟨by rw [c]; decide, by rw [c]; decide⟩
      · rw [if_pos c]; exact PF.bad (by decide)
    · rw [if_neg b]
      by_cases c : cov (tkK T i) h = -1
      · rw [if_neg (fun q => q c)]
        exact PF.bad (by split <;> decide)
      · rw [if_pos c]
        have := cov_ok hh c
        exact PF.one (Nat.lt_succ_self i) this.1 this.2.1 (fun t t1 t2 => by rw [show t = i by omega]; exact this.2.2)
theorem PF.part {T : RT} {h B i : Nat} {E : Nat → PR} (hT : tkG T) (hh : h < 8) (hB : 1 ≤ B) (hE : ∀ i, PF T B i (E i)) : PF T B i (pPart T h E i) := by
  unfold pPart
  by_cases a : tkK T i = nI 40
  · rw [if_pos a]
    refine PF.thn (r := E (i + 1)) (B := B) (i := i) (fun q => ?_) (fun j cs h1 h2 h3 h4 h5 => ?_)
    · obtain ⟨g1, g2, g3, g4, g5⟩ := hE (i + 1) q
      refine ⟨by omega, by omega, g3, g4, fun t t1 t2 => ?_⟩
      by_cases r : t = i
      · rw [r]; exact ⟨by rw [a]; decide, by rw [a]; decide⟩
      · exact g5 t (by omega) t2
    · by_cases b : tkK T j = nI 41
      · rw [if_pos b]
        refine fun _ => ⟨by show i < j + 1; omega, by show cs.length ≤ j + 1 - i; omega, h3, h4, fun t t1 t2 => ?_⟩
        have t2 : t < j + 1 := t2
        by_cases r : t = j
        · rw [r]; exact ⟨by rw [b]; decide, by rw [b]; decide⟩
        · exact h5 t t1 (by omega)
      · rw [if_neg b]; exact PF.bad (by decide)
  · rw [if_neg a]
    exact (PF.atom hT hh).up hB
theorem is2_nz {a b : Nat} (ha : ¬ nI a = nI 0 ∧ ¬ nI a = nI 1) (hb : ¬ nI b = nI 0 ∧ ¬ nI b = nI 1) (k : Int32) (h : is2 a b k = true) : ¬ k = nI 0 ∧ ¬ k = nI 1 := by
  rcases is2_t h with q | q <;> rw [q]
  · exact ha
  · exact hb
theorem PF.prod {T : RT} {h B i : Nat} {E : Nat → PR} (hp : ∀ i, PF T B i (pPart T h E i)) : PF T (B + 1) i (pProd T h E i) := (hp i).thn (fun j cs h1 h2 h3 h4 h5 => PF.loop (is2_nz (by decide) (by decide)) (fun k => by unfold cdN; split <;> decide) hp 500 j cs h1 h2 h3 (fun d hd => h4 d (by omega)) h5)
theorem PF.sum {T : RT} {h B i : Nat} {E : Nat → PR} (hp : ∀ i, PF T B i (pProd T h E i)) : PF T (B + 1) i (pSum T h E i) := (hp i).thn (fun j cs h1 h2 h3 h4 h5 => PF.loop (is2_nz (by decide) (by decide)) (fun k => by unfold cdN; split <;> decide) hp 500 j cs h1 h2 h3 (fun d hd => h4 d (by omega)) h5)
theorem PF.test {T : RT} {h B i : Nat} {E : Nat → PR} (hp : ∀ i, PF T B i (pSum T h E i)) : PF T (B + 1) i (pTest T h E i) := (hp i).thn (fun j cs h1 h2 h3 h4 h5 => by
  by_cases c : is2 60 61 (tkK T j) = true
  · rw [if_pos c]
    unfold pThen
    by_cases q : (pSum T h E (j + 1)).1 = 0
    · rw [if_pos q]
      obtain ⟨a1, a2, a3, a4, a5⟩ := hp (j + 1) q
      have hc : 20003 < cdN 60 20008 20009 (tkK T j) ∧ cdN 60 20008 20009 (tkK T j) < 20012 := by unfold cdN; split <;> decide
      refine fun _ => ⟨by show i < (pSum T h E (j + 1)).2.1; omega, ?_, ?_, ?_, ?_⟩
      · show (cs ++ (pSum T h E (j + 1)).2.2 ++ [_]).length ≤ (pSum T h E (j + 1)).2.1 - i
        simp only [List.length_append, List.length_cons, List.length_nil]
        omega
      · intro x hx
        rcases List.mem_append.mp hx with y | y
        · rcases List.mem_append.mp y with z | z
          · exact h3 x z
          · exact a3 x z
        · rw [List.mem_singleton.mp y]
          exact ⟨hc.2, fun _ z => by omega⟩
      · intro d hd
        exact okr_app (okr_app (h4 d (by omega)) (a4 (d + 1) (by omega))) (okr_op hc)
      · intro t t1 t2
        by_cases r : t < j
        · exact h5 t t1 r
        · by_cases s : t = j
          · rw [s]; exact is2_nz (by decide) (by decide) _ c
          · exact a5 t (by omega) t2
    · rw [if_neg q]; exact PF.bad q
  · rw [if_neg c]
    exact fun _ => ⟨h1, h2, h3, fun d hd => h4 d (by omega), h5⟩)
theorem nots_F {T : RT} : ∀ (k m i : Nat), (pNots T k m i).1 = 0 → i ≤ (pNots T k m i).2.2 ∧ m ≤ (pNots T k m i).2.1 ∧ (pNots T k m i).2.1 - m ≤ (pNots T k m i).2.2 - i ∧ ∀ t, i ≤ t → t < (pNots T k m i).2.2 → tOK T t
  | 0, m, i, _ => ⟨Nat.le_refl _, Nat.le_refl _, by show m - m ≤ i - i; omega, fun t t1 t2 => by have t2 : t < i := t2; omega⟩
  | k + 1, m, i, h => by
    unfold pNots at h ⊢
    by_cases a : tkK T i = nI 135
    · rw [if_pos a] at h ⊢
      by_cases b : m = 6
      · rw [if_pos b] at h; exact absurd h (by show ¬ (2 : Nat) = 0; decide)
      · rw [if_neg b] at h ⊢
        obtain ⟨g1, g2, g3, g4⟩ := nots_F k (m + 1) (i + 1) h
        refine ⟨by omega, by omega, by omega, fun t t1 t2 => ?_⟩
        by_cases r : t = i
        · rw [r]; exact ⟨by rw [a]; decide, by rw [a]; decide⟩
        · exact g4 t (by omega) t2
    · rw [if_neg a]
      exact ⟨Nat.le_refl _, Nat.le_refl _, by show m - m ≤ i - i; omega, fun t t1 t2 => by have t2 : t < i := t2; omega⟩
theorem PF.nots {T : RT} {h B i : Nat} {E : Nat → PR} (hp : ∀ i, PF T B i (pTest T h E i)) : PF T B i (pNot T h E i) := by
  unfold pNot
  have hn := nots_F (T := T) 7 0 i
  generalize pNots T 7 0 i = q at hn ⊢
  obtain ⟨f, m, j⟩ := q
  by_cases c : f = 0
  · rw [if_pos (show (f, m, j).1 = 0 from c)]
    obtain ⟨g1, g2, g3, g4⟩ := hn c
    have g1 : i ≤ j := g1
    have g3 : m - 0 ≤ j - i := g3
    unfold pThen
    by_cases q : (pTest T h E j).1 = 0
    · rw [if_pos q]
      obtain ⟨a1, a2, a3, a4, a5⟩ := hp j q
      refine fun _ => ⟨by show i < (pTest T h E j).2.1; omega, ?_, ?_, ?_, ?_⟩
      · show ((pTest T h E j).2.2 ++ List.replicate m 20003).length ≤ (pTest T h E j).2.1 - i
        simp only [List.length_append, List.length_replicate]
        omega
      · intro x hx
        rcases List.mem_append.mp hx with y | y
        · exact a3 x y
        · rw [List.eq_of_mem_replicate y]
          exact ⟨by decide, fun _ z => absurd z (by decide)⟩
      · intro d hd
        exact okr_app (a4 d hd) (okr_nots m)
      · intro t t1 t2
        by_cases r : t < j
        · exact g4 t t1 r
        · exact a5 t (by omega) t2
    · rw [if_neg q]; exact PF.bad q
  · rw [if_neg (show ¬ (f, m, j).1 = 0 from c)]
    exact PF.bad c
theorem is1_nz {a : Nat} (ha : ¬ nI a = nI 0 ∧ ¬ nI a = nI 1) (k : Int32) (h : is1 a k = true) : ¬ k = nI 0 ∧ ¬ k = nI 1 := by rw [is1_t h]; exact ha
theorem PF.both {T : RT} {h B i : Nat} {E : Nat → PR} (hp : ∀ i, PF T B i (pNot T h E i)) : PF T (B + 1) i (pBoth T h E i) := (hp i).thn (fun j cs h1 h2 h3 h4 h5 => PF.loop (is1_nz (by decide)) (fun k => by unfold cd1N; decide) hp 500 j cs h1 h2 h3 (fun d hd => h4 d (by omega)) h5)
theorem PF.expr {T : RT} {h : Nat} (hT : tkG T) (hh : h < 8) : ∀ (k i : Nat), PF T (5 * k + 1) i (pExpr T h k i)
  | 0, i => PF.bad (by split <;> decide)
  | k + 1, i => by
    have h0 : ∀ i, PF T (5 * k + 1) i (pPart T h (pExpr T h k) i) := fun i => PF.part hT hh (by omega) (PF.expr hT hh k)
    have h1 : ∀ i, PF T (5 * k + 2) i (pProd T h (pExpr T h k) i) := fun i => PF.prod h0
    have h2 : ∀ i, PF T (5 * k + 3) i (pSum T h (pExpr T h k) i) := fun i => PF.sum h1
    have h3 : ∀ i, PF T (5 * k + 4) i (pTest T h (pExpr T h k) i) := fun i => PF.test h2
    have h4 : ∀ i, PF T (5 * k + 4) i (pNot T h (pExpr T h k) i) := fun i => PF.nots h3
    have h5 : ∀ i, PF T (5 * k + 5) i (pBoth T h (pExpr T h k) i) := fun i => PF.both h4
    have h6 : PF T (5 * k + 6) i (pExpr T h (k + 1) i) := (h5 i).thn (fun j cs h1 h2 h3 h4 h5' => PF.loop (is1_nz (by decide)) (fun k => by unfold cd1N; decide) h5 500 j cs h1 h2 h3 (fun d hd => h4 d (by omega)) h5')
    rw [show 5 * (k + 1) + 1 = 5 * k + 6 by omega]
    exact h6

/-! WHAT A SEEDED STREET IS -/
def sdS (x : Int32) (h : Nat) : Int32 := if dv (lcg x) % 4 = 1 then lcg (lcg x) else if dv (lcg x) % 4 = 2 ∧ 0 < h then lcg (lcg (lcg x)) else if dv (lcg x) % 4 = 3 ∧ 0 < h then lcg (lcg x) else lcg x
theorem sdH_2 (x : Int32) (h M : Nat) : (sdH x h M).2 = sdS x h := by
  unfold sdH sdS
  split
  · rfl
  split
  · rfl
  split
  · rfl
  · rfl
def sdX (x : Int32) : Nat → Int32
  | 0 => x
  | h + 1 => sdS (sdX x h) h
def sdCs (M : Nat) (x : Int32) (h : Nat) : List Nat := sdC (sdX x h) h M
def ofs (cs : Nat → List Nat) : Nat → Nat
  | 0 => 0
  | h + 1 => ofs cs h + (cs h).length
def lkm (m : Nat) (cs : List Nat) : Nat := cs.foldl (fun m c => if 10000 ≤ c ∧ c < 20000 then m ||| 2 ^ (c - 10000) else m) m
def stF (cs : Nat → List Nat) (k : Nat) (q : SS) : Prop := q.1 = k ∧ q.2.2.2.2.1 = ofs cs k ∧ (∀ i, i < 32 → bt q.2.2.2.1 i = (decide (i < k) && !(cs i).isEmpty)) ∧ ∀ h, h < k → q.2.2.2.2.2.2.1 h = nI (lkm 0 (cs h)) ∧ q.2.2.2.2.2.2.2.2.1 h = nI (ofs cs h) ∧ q.2.2.2.2.2.2.2.2.2.1 h = nI (ofs cs h + (cs h).length) ∧ ∀ j, j < (cs h).length → q.2.2.2.2.2.2.2.1 (ofs cs h + j) = nI ((cs h).getD j 0)
theorem or_bit (m d : Nat) (hd : d < 31) : nI m ||| (nI 1 <<< (nI d &&& 31)) = nI (m ||| 2 ^ d) := by
  apply b_ext
  intro i hi
  rw [b_or, b_sh1 (by omega) hi, b_nI _ hi, b_nI _ hi, Nat.testBit_or, Nat.testBit_two_pow]
  congr 1
  by_cases e : i = d
  · simp [e]
  · simp [e, Ne.symm e]
theorem cds_facts (h : Nat) (h8 : h < 8) : ∀ (cs : List Nat) (q : SS), q.1 = h + 1 → q.2.2.2.2.1 + cs.length ≤ 520 → (∀ c ∈ cs, c < 20012 ∧ (10000 ≤ c → c < 20000 → c - 10000 < 31)) → (cds cs q).2.1 = q.2.1 ∧ (cds cs q).2.2.1 = q.2.2.1 ∧ (cds cs q).2.2.2.1 = q.2.2.2.1 ∧ (cds cs q).2.2.2.2.1 = q.2.2.2.2.1 + cs.length ∧ (∀ j, (cds cs q).2.2.2.2.2.2.2.1 j = if q.2.2.2.2.1 ≤ j ∧ j < q.2.2.2.2.1 + cs.length then nI (cs.getD (j - q.2.2.2.2.1) 0) else q.2.2.2.2.2.2.2.1 j) ∧ (cds cs q).2.2.2.2.2.2.2.2.1 = q.2.2.2.2.2.2.2.2.1 ∧ (∀ j, j ≠ h → (cds cs q).2.2.2.2.2.2.2.2.2.1 j = q.2.2.2.2.2.2.2.2.2.1 j ∧ (cds cs q).2.2.2.2.2.2.1 j = q.2.2.2.2.2.2.1 j) ∧ (q.2.2.2.2.2.2.2.2.2.1 h = nI q.2.2.2.2.1 → (cds cs q).2.2.2.2.2.2.2.2.2.1 h = nI (q.2.2.2.2.1 + cs.length)) ∧ (∀ m, q.2.2.2.2.2.2.1 h = nI m → (cds cs q).2.2.2.2.2.2.1 h = nI (lkm m cs))
  | [], q, _, _, _ => by
    refine ⟨rfl, rfl, rfl, rfl, fun j => ?_, rfl, fun j _ => ⟨rfl, rfl⟩, fun z => z, fun m z => z⟩
    rw [if_neg (by simp)]
    rfl
  | c :: t, q, hq, hc, hcs => by
    obtain ⟨ho, mo, un, ri, cd, tl, lo, co, cf, ct, tx, tf, tt⟩ := q
    dsimp only at hq hc ⊢
    have hc0 := hcs c List.mem_cons_self
    rw [List.length_cons] at hc
    have e : SS.code (ho, mo, un, ri, cd, tl, lo, co, cf, ct, tx, tf, tt) (nI c) = (ho, mo, un, ri, cd + 1, tl, (if 10000 ≤ c ∧ c < 20000 then va_up lo h (lo h ||| (nI 1 <<< (nI (c - 10000) &&& 31))) else lo), va_up co cd (nI c), cf, va_up ct h (nI (cd + 1)), tx, tf, tt) := by
      simp only [SS.code]
      rw [if_neg (by omega), show ho - 1 = h by omega]
      congr 7
      by_cases z : 10000 ≤ c ∧ c < 20000
      · rw [if_pos z, if_pos ⟨(nI_leI (by omega) (by omega)).mpr z.1, (nI_ltI (by omega) (by omega)).mpr z.2⟩, pk_sub z.1]
      · rw [if_neg z, if_neg (fun y => z ⟨(nI_leI (by omega) (by omega)).mp y.1, (nI_ltI (by omega) (by omega)).mp y.2⟩)]
    have hcd : cds (c :: t) (ho, mo, un, ri, cd, tl, lo, co, cf, ct, tx, tf, tt) = cds t (ho, mo, un, ri, cd + 1, tl, (if 10000 ≤ c ∧ c < 20000 then va_up lo h (lo h ||| (nI 1 <<< (nI (c - 10000) &&& 31))) else lo), va_up co cd (nI c), cf, va_up ct h (nI (cd + 1)), tx, tf, tt) := by
      rw [← e]
      rfl
    rw [hcd]
    obtain ⟨f1, f2, f3, f4, f5, f6, f7, f8, f9⟩ := cds_facts h h8 t (ho, mo, un, ri, cd + 1, tl, (if 10000 ≤ c ∧ c < 20000 then va_up lo h (lo h ||| (nI 1 <<< (nI (c - 10000) &&& 31))) else lo), va_up co cd (nI c), cf, va_up ct h (nI (cd + 1)), tx, tf, tt) hq (by dsimp only; omega) (fun c' h' => hcs c' (List.mem_cons_of_mem _ h'))
    dsimp only at f1 f2 f3 f4 f5 f6 f7 f8 f9
    refine ⟨f1, f2, f3, by rw [f4, List.length_cons]; omega, fun j => ?_, f6, fun j hj => ?_, fun z => ?_, fun m z => ?_⟩
    · rw [f5 j, List.length_cons]
      by_cases j0 : j = cd
      · rw [if_neg (by omega), if_pos (by omega), j0, am_up_s, Nat.sub_self]
        rfl
      · rw [am_up_n _ _ j0]
        by_cases j1 : cd + 1 ≤ j ∧ j < cd + 1 + t.length
        · rw [if_pos j1, if_pos (by omega), show j - cd = (j - (cd + 1)) + 1 by omega]
          rfl
        · rw [if_neg j1, if_neg (by omega)]
    · rw [(f7 j hj).1, (f7 j hj).2, am_up_n _ _ hj]
      refine ⟨rfl, ?_⟩
      split
      · rw [am_up_n _ _ hj]
      · rfl
    · rw [f8 (am_up_s _ _ _), List.length_cons]
      congr 1
      omega
    · show _ = nI (lkm (if 10000 ≤ c ∧ c < 20000 then m ||| 2 ^ (c - 10000) else m) t)
      apply f9
      by_cases y : 10000 ≤ c ∧ c < 20000
      · rw [if_pos y, if_pos y, am_up_s, z, or_bit _ _ (hc0.2 y.1 y.2)]
      · rw [if_neg y, if_neg y, z]
theorem sdC_ok {x : Int32} {h M : Nat} (h8 : h < 8) (hM0 : 0 < M) (hM : M ≤ 20) : (sdC x h M).length ≤ 5 ∧ ∀ c ∈ sdC x h M, c < 20012 ∧ (10000 ≤ c → c < 20000 → c - 10000 < 8) := by
  have a1 := Nat.mod_lt (dv (lcg (lcg x))) hM0
  have a3 := Nat.mod_lt (dv (lcg (lcg (lcg x)))) (show 0 < 4 by omega)
  unfold sdC
  split
  · refine ⟨by simp, fun c hc => ?_⟩
    simp at hc
    omega
  split
  · rename_i e2
    have a2 := Nat.mod_lt (dv (lcg (lcg x))) e2.2
    refine ⟨by simp, fun c hc => ?_⟩
    simp at hc
    omega
  split
  · rename_i e2
    have a2 := Nat.mod_lt (dv (lcg (lcg x))) e2.2
    refine ⟨by simp, fun c hc => ?_⟩
    simp at hc
    omega
  · exact ⟨by simp, fun c hc => (nomatch hc)⟩
theorem hb_facts {q : SS} (h8 : q.1 < 8) (hc : q.2.2.2.2.1 < 2 ^ 31) : (SS.house q).1 = q.1 + 1 ∧ (SS.house q).2.2.2.2.1 = q.2.2.2.2.1 ∧ (SS.house q).2.2.2.1 = q.2.2.2.1 ∧ (SS.house q).2.2.2.2.2.2.2.1 = q.2.2.2.2.2.2.2.1 ∧ (SS.house q).2.2.2.2.2.2.1 = va_up q.2.2.2.2.2.2.1 q.1 (nI 0) ∧ (SS.house q).2.2.2.2.2.2.2.2.1 = va_up q.2.2.2.2.2.2.2.2.1 q.1 (nI q.2.2.2.2.1) ∧ (SS.house q).2.2.2.2.2.2.2.2.2.1 = va_up q.2.2.2.2.2.2.2.2.2.1 q.1 (nI q.2.2.2.2.1) ∧ (SS.begin (SS.house q)).1 = q.1 + 1 ∧ (SS.begin (SS.house q)).2.2.2.2.1 = q.2.2.2.2.1 ∧ (SS.begin (SS.house q)).2.2.2.1 = q.2.2.2.1 ||| (nI 1 <<< (nI q.1 &&& 31)) ∧ (SS.begin (SS.house q)).2.2.2.2.2.2.2.1 = q.2.2.2.2.2.2.2.1 ∧ (SS.begin (SS.house q)).2.2.2.2.2.2.1 = va_up (va_up q.2.2.2.2.2.2.1 q.1 (nI 0)) q.1 (nI 0) ∧ (SS.begin (SS.house q)).2.2.2.2.2.2.2.2.1 = va_up q.2.2.2.2.2.2.2.2.1 q.1 (nI q.2.2.2.2.1) ∧ (SS.begin (SS.house q)).2.2.2.2.2.2.2.2.2.1 = va_up (va_up q.2.2.2.2.2.2.2.2.2.1 q.1 (nI q.2.2.2.2.1)) q.1 (nI q.2.2.2.2.1) := by
  obtain ⟨ho, mo, un, ri, cd, tl, lo, co, cf, ct, tx, tf, tt⟩ := q
  dsimp only at h8 hc
  simp only [SS.house]
  rw [if_pos h8]
  simp only [SS.begin]
  rw [if_neg (by omega), Nat.add_sub_cancel, am_up_s, nI_clamp hc]
  exact ⟨by first | rfl | trivial, by first | rfl | trivial, by first | rfl | trivial, by first | rfl | trivial, by first | rfl | trivial, by first | rfl | trivial, by first | rfl | trivial, by first | rfl | trivial, by first | rfl | trivial, by first | rfl | trivial, by first | rfl | trivial, by first | rfl | trivial, by first | rfl | trivial, by first | rfl | trivial⟩
theorem ofs_le {M : Nat} {x : Int32} (hM0 : 0 < M) (hM : M ≤ 20) : ∀ h, h ≤ 8 → ofs (sdCs M x) h ≤ 5 * h
  | 0, _ => Nat.le_refl _
  | h + 1, hh => by
    have := ofs_le (x := x) hM0 hM h (by omega)
    have l := (sdC_ok (x := sdX x h) (h := h) (by omega) hM0 hM).1
    show ofs (sdCs M x) h + (sdCs M x h).length ≤ _
    have : (sdCs M x h).length ≤ 5 := l
    omega
theorem ofs_mono (cs : Nat → List Nat) {a b : Nat} (h : a < b) : ofs cs a + (cs a).length ≤ ofs cs b := by
  induction b with
  | zero => omega
  | succ b ih =>
    show _ ≤ ofs cs b + (cs b).length
    by_cases e : a = b
    · subst e; omega
    · have := ih (by omega); omega
set_option maxHeartbeats 4000000 in
theorem stF_step {M k : Nat} {x : Int32} {q : SS} (hM0 : 0 < M) (hM : M ≤ 20) (hk : k < 8) (hq : stF (sdCs M x) k q) : stF (sdCs M x) (k + 1) (sdQ (sdX x k) k M q) := by
  obtain ⟨g1, g2, g3, g4⟩ := hq
  have hofs := ofs_le (x := x) hM0 hM k (by omega)
  obtain ⟨hcl, hco⟩ := sdC_ok (x := sdX x k) (h := k) hk hM0 hM
  have hcl' : (sdCs M x k).length ≤ 5 := hcl
  obtain ⟨b1, b2, b3, b4, b5, b6, b7, b8, b9, b10, b11, b12, b13, b14⟩ := hb_facts (q := q) (by omega) (by omega)
  unfold sdQ
  by_cases e : sdC (sdX x k) k M = []
  · rw [if_pos e]
    have e' : sdCs M x k = [] := e
    refine ⟨by rw [b1, g1], by rw [b2, g2]; show _ = ofs (sdCs M x) k + (sdCs M x k).length; rw [e']; rfl, fun i hi => ?_, fun h hh => ?_⟩
    · rw [b3, g3 i hi]
      by_cases ei : i = k
      · subst ei; simp [e']
      · by_cases li : i < k
        · simp [li, show i < k + 1 by omega]
        · simp [li, show ¬ i < k + 1 by omega]
    · rw [b5, b6, b7, b4, g1]
      by_cases eh : h = k
      · subst eh
        rw [am_up_s, am_up_s, am_up_s, e', g2]
        exact ⟨rfl, rfl, rfl, fun j hj => (nomatch hj)⟩
      · rw [am_up_n _ _ eh, am_up_n _ _ eh, am_up_n _ _ eh]
        exact g4 h (by omega)
  · rw [if_neg e]
    obtain ⟨f1, f2, f3, f4, f5, f6, f7, f8, f9⟩ := cds_facts k hk (sdC (sdX x k) k M) (SS.begin (SS.house q)) (by rw [b8, g1]) (by rw [b9, g2]; omega) (fun c hc => ⟨(hco c hc).1, fun a b => by have := (hco c hc).2 a b; omega⟩)
    refine ⟨by rw [cds_ho, b8, g1], by rw [f4, b9, g2]; rfl, fun i hi => ?_, fun h hh => ?_⟩
    · rw [f3, b10, b_or, g3 i hi, g1, b_sh1 (by omega) hi]
      have e' : (sdCs M x k).isEmpty = false := by simpa [sdCs] using e
      by_cases ei : i = k
      · subst ei; simp [e']
      · by_cases li : i < k
        · simp [li, ei, show i < k + 1 by omega]
        · simp [li, ei, show ¬ i < k + 1 by omega]
    · by_cases eh : h = k
      · subst eh
        refine ⟨f9 0 (by rw [b12, g1, am_up_s]), by rw [f6, b13, g1, am_up_s, g2], by rw [f8 (by rw [b14, g1, am_up_s, b9]), b9, g2]; rfl, fun j hj => ?_⟩
        rw [f5, b9, g2, if_pos ⟨by omega, by have : j < (sdC (sdX x h) h M).length := hj; omega⟩, Nat.add_sub_cancel_left]
        rfl
      · have hm := ofs_mono (sdCs M x) (show h < k by omega)
        obtain ⟨p1, p2, p3, p4⟩ := g4 h (by omega)
        refine ⟨by rw [(f7 h eh).2, b12, g1, am_up_n _ _ eh, am_up_n _ _ eh]; exact p1, by rw [f6, b13, g1, am_up_n _ _ eh]; exact p2, by rw [(f7 h eh).1, b14, g1, am_up_n _ _ eh, am_up_n _ _ eh]; exact p3, fun j hj => ?_⟩
        rw [f5, b9, g2, if_neg (by omega), b11]
        exact p4 j hj
theorem sw_facts {M : Nat} {x : Int32} (hM0 : 0 < M) (hM : M ≤ 20) (k : Nat) : ∀ (h : Nat) (y : Int32) (q : SS), y = sdX x h → h + k ≤ 8 → stF (sdCs M x) h q → stF (sdCs M x) (h + k) (swQ M k h y q) := by
  induction k with
  | zero =>
    intro h y q _ _ hq
    unfold swQ
    exact hq
  | succ k ih =>
    intro h y q hy hk hq
    unfold swQ
    have hs := stF_step hM0 hM (show h < 8 by omega) hq
    rw [← hy] at hs
    have he : (sdH y h M).2 = sdX x (h + 1) := by rw [sdH_2, hy, sdX]
    have hn := ih (h + 1) (sdH y h M).2 (sdQ y h M q) he (by omega) hs
    rw [show h + (k + 1) = h + 1 + k by omega]
    exact hn
theorem stF_core {cs : Nat → List Nat} {k : Nat} {q q2 : SS} (h : core q = core q2) (hq : stF cs k q2) : stF cs k q := by
  obtain ⟨e1, e2, e3, e4, e5, e6, e7, e8, e9⟩ := core_eq h
  unfold stF
  rw [e1, e4, e5, e6, e7, e8, e9]
  exact hq
theorem stF_0 {cs : Nat → List Nat} {q : SS} (h1 : q.1 = 0) (h2 : q.2.2.2.2.1 = 0) (h3 : q.2.2.2.1 = nI 0) : stF cs 0 q := ⟨h1, h2, fun i hi => by rw [h3]; simp [show bt (nI 0) i = false from b_0 i], fun h hh => absurd hh (Nat.not_lt_zero h)⟩

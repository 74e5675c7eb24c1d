/-! LOOKING AT DOORS: the game, pure; sets of numberings are the bits of a number -/
def one (w : Nat) : Bool := decide (w &&& (w - 1) = 0)
/-- the worst behind a look: left, numbering, worst, rest -/
def wl (v : Nat → Nat) (al : Nat → Nat) (w : Nat) : Nat → Nat → Nat → Nat → Nat
  | 0, _, worst, _ => worst
  | k + 1, i, worst, rest => if rest = 0 then worst else if rest.testBit i then wl v al w k (i + 1) (if w &&& al i = w then 8 else max worst (v (w &&& al i))) (rest ^^^ (rest &&& (w &&& al i))) else wl v al w k (i + 1) worst rest
def gB (W : Nat → Nat) (D : Nat) : Nat → Nat
  | 0 => 8
  | h + 1 => if D.testBit h then gB W D h else min (gB W D h) (1 + W h)
def gV (al : Nat → Nat → Nat) (c H : Nat) : Nat → Nat → Nat → Nat
  | 0, _, w => if one w then 0 else 8
  | f + 1, D, w => if one w then 0 else gB (fun h => wl (gV al c H f (D ||| 2 ^ h)) (al h) w c 0 0 w) D H
/-- whether n looks tell a set -/
def tl (pa : Nat → Nat → Nat) (H M : Nat) : Nat → Nat → Bool
  | 0, w => one w
  | n + 1, w => one w || (List.range H).any fun h => (List.range M).all fun v => one (w &&& pa h (v + 1)) || (!decide (w &&& pa h (v + 1) = w) && tl pa H M n (w &&& pa h (v + 1)))
theorem tb_ext {a b : Nat} (h : ∀ i, a.testBit i = b.testBit i) : a = b := Nat.eq_of_testBit_eq h
theorem one_few {w : Nat} (h : ∀ i j, w.testBit i = true → w.testBit j = true → i = j) : one w = true := by
  unfold one
  apply decide_eq_true
  by_cases h0 : w = 0
  · subst h0; rfl
  · obtain ⟨i, hi⟩ := Nat.exists_testBit_of_ne_zero h0
    have e : w = 2 ^ i := tb_ext (fun j => by
      rw [Nat.testBit_two_pow]
      by_cases c : i = j
      · subst c; simp [hi]
      · have : ¬ w.testBit j = true := fun q => c (h i j hi q)
        simp at this
        simp [c, this])
    rw [e]
    apply tb_ext
    intro j
    rw [Nat.testBit_and, Nat.testBit_two_pow, Nat.testBit_two_pow_sub_one, Nat.zero_testBit]
    by_cases c : i = j <;> simp [c]
theorem wl_le {v : Nat → Nat} {al : Nat → Nat} {w c n : Nat} (hn : n ≤ 7) (hc : ∀ j, w.testBit j = true → j < c) (hal : ∀ i j, i < c → j < c → (al i).testBit j = true → al j = al i) (hrf : ∀ i, i < c → (al i).testBit i = true) : ∀ (k i worst rest : Nat), i + k = c → (∀ j, rest.testBit j = true → w.testBit j = true ∧ i ≤ j) → (wl v al w k i worst rest ≤ n ↔ worst ≤ n ∧ ∀ j, rest.testBit j = true → ¬ (w &&& al j = w) ∧ v (w &&& al j) ≤ n)
  | 0, i, worst, rest, hi, hr => by
    unfold wl
    refine ⟨fun h => ⟨h, fun j hj => ?_⟩, fun h => h.1⟩
    have := hr j hj
    have := hc j this.1
    omega
  | k + 1, i, worst, rest, hi, hr => by
    unfold wl
    by_cases c0 : rest = 0
    · rw [if_pos c0]
      refine ⟨fun h => ⟨h, fun j hj => ?_⟩, fun h => h.1⟩
      rw [c0, Nat.zero_testBit] at hj
      exact nomatch hj
    rw [if_neg c0]
    by_cases c1 : rest.testBit i = true
    · rw [if_pos c1]
      have hw : w.testBit i = true := (hr i c1).1
      have hb : ∀ j, (rest ^^^ (rest &&& (w &&& al i))).testBit j = true ↔ rest.testBit j = true ∧ ¬ (al i).testBit j = true := fun j => by
        rw [Nat.testBit_xor, Nat.testBit_and, Nat.testBit_and]
        by_cases q : rest.testBit j = true
        · rw [q, (hr j q).1]; cases (al i).testBit j <;> simp
        · simp at q; rw [q]; simp
      rw [wl_le hn hc hal hrf k (i + 1) _ _ (by omega) (fun j hj => by
        have := (hb j).mp hj
        have h2 := hr j this.1
        refine ⟨h2.1, ?_⟩
        rcases Nat.lt_or_ge i j with q | q
        · omega
        · have e : j = i := by omega
          subst e
          exact absurd (hrf j (by omega)) this.2)]
      constructor
      · rintro ⟨h1, h2⟩
        have hs : ¬ (w &&& al i = w) := fun z => by rw [if_pos z] at h1; omega
        rw [if_neg hs] at h1
        refine ⟨by omega, fun j hj => ?_⟩
        by_cases q : (al i).testBit j = true
        · rw [hal i j (by omega) (hc j (hr j hj).1) q]
          exact ⟨hs, by omega⟩
        · exact h2 j ((hb j).mpr ⟨hj, q⟩)
      · rintro ⟨h1, h2⟩
        have h3 := h2 i c1
        rw [if_neg h3.1]
        exact ⟨by omega, fun j hj => h2 j ((hb j).mp hj).1⟩
    · rw [if_neg c1]
      rw [wl_le hn hc hal hrf k (i + 1) _ _ (by omega) (fun j hj => by
        have h2 := hr j hj
        refine ⟨h2.1, ?_⟩
        rcases Nat.lt_or_ge i j with q | q
        · omega
        · have e : j = i := by omega
          subst e
          exact absurd hj c1)]
theorem gB_le {W : Nat → Nat} {D n : Nat} (hn : n ≤ 7) : ∀ H, gB W D H ≤ n ↔ ∃ h, h < H ∧ ¬ D.testBit h = true ∧ 1 + W h ≤ n
  | 0 => by unfold gB; exact ⟨fun h => by omega, fun ⟨h, h1, _⟩ => by omega⟩
  | H + 1 => by
    unfold gB
    by_cases c : D.testBit H = true
    · rw [if_pos c, gB_le hn H]
      exact ⟨fun ⟨h, h1, h2⟩ => ⟨h, by omega, h2⟩, fun ⟨h, h1, h2⟩ => ⟨h, by
        rcases Nat.lt_or_ge h H with q | q
        · exact q
        · exact absurd (by rw [show h = H by omega]; exact c) h2.1, h2⟩⟩
    · rw [if_neg c]
      constructor
      · intro h
        by_cases q : 1 + W H ≤ n
        · exact ⟨H, by omega, c, q⟩
        · have : gB W D H ≤ n := by omega
          obtain ⟨h, h1, h2⟩ := (gB_le hn H).mp this
          exact ⟨h, by omega, h2⟩
      · rintro ⟨h, h1, h2⟩
        rcases Nat.lt_or_ge h H with q | q
        · have := (gB_le hn H).mpr ⟨h, q, h2⟩
          omega
        · have e : h = H := by omega
          subst e
          have := h2.2
          omega
theorem gB_8 {W : Nat → Nat} {D : Nat} : ∀ H, gB W D H ≤ 8
  | 0 => by unfold gB; omega
  | H + 1 => by
    have := gB_8 (W := W) (D := D) H
    unfold gB
    split <;> omega
theorem gB_1 {W : Nat → Nat} {D : Nat} : ∀ H, 1 ≤ gB W D H
  | 0 => by unfold gB; omega
  | H + 1 => by
    have := gB_1 (W := W) (D := D) H
    unfold gB
    split <;> omega
theorem gV_8 (al : Nat → Nat → Nat) (c H f D w : Nat) : gV al c H f D w ≤ 8 := by
  cases f with
  | zero => unfold gV; split <;> omega
  | succ f => unfold gV; split; omega; exact gB_8 H
theorem pc_or : ∀ D, D < 256 → ∀ h, h < 8 → ¬ D.testBit h = true → pc8 (D ||| 2 ^ h) = pc8 D + 1 ∧ D ||| 2 ^ h < 256 := by decide +kernel
theorem pc_all : ∀ D, D < 256 → pc8 D = 8 → ∀ h, h < 8 → D.testBit h = true := by decide +kernel
/-- all of a set have the same numbers at the doors D -/
def agr (nm : Nat → Nat → Nat) (H D w : Nat) : Prop := ∀ i j h, h < H → D.testBit h = true → w.testBit i = true → w.testBit j = true → nm i h = nm j h
def alO (nm : Nat → Nat → Nat) (c H : Nat) (al : Nat → Nat → Nat) : Prop := ∀ h, h < H → ∀ i j, i < c → ((al h i).testBit j = true ↔ j < c ∧ nm i h = nm j h)
def paO (nm : Nat → Nat → Nat) (c H M : Nat) (pa : Nat → Nat → Nat) : Prop := ∀ h, h < H → ∀ v j, 1 ≤ v → v ≤ M → ((pa h v).testBit j = true ↔ j < c ∧ nm j h = v)
theorem agr.sub {nm : Nat → Nat → Nat} {H D w s h v : Nat} (ha : agr nm H D w) (hs : ∀ j, s.testBit j = true → w.testBit j = true ∧ nm j h = v) : agr nm H (D ||| 2 ^ h) s := by
  intro i j h' hh hD hi hj
  rw [Nat.testBit_or, Nat.testBit_two_pow] at hD
  by_cases q : D.testBit h' = true
  · exact ha i j h' hh q (hs i hi).1 (hs j hj).1
  · simp at q
    rw [q] at hD
    simp at hD
    subst hD
    rw [(hs i hi).2, (hs j hj).2]
theorem tl_one {pa : Nat → Nat → Nat} {H M n w : Nat} (h : one w = true) : tl pa H M n w = true := by
  cases n <;> unfold tl <;> simp [h]
theorem pa_sub {nm : Nat → Nat → Nat} {c H M : Nat} {pa : Nat → Nat → Nat} (hp : paO nm c H M pa) {h v w : Nat} (hh : h < H) (h1 : 1 ≤ v) (h2 : v ≤ M) : ∀ j, (w &&& pa h v).testBit j = true → w.testBit j = true ∧ nm j h = v := fun j hj => by
  rw [Nat.testBit_and, Bool.and_eq_true] at hj
  exact ⟨hj.1, ((hp h hh v j h1 h2).mp hj.2).2⟩
theorem al_pa {nm : Nat → Nat → Nat} {c H M : Nat} {al pa : Nat → Nat → Nat} (hl : alO nm c H al) (hp : paO nm c H M pa) {h j : Nat} (hh : h < H) (hj : j < c) (h1 : 1 ≤ nm j h) (h2 : nm j h ≤ M) : al h j = pa h (nm j h) := by
  apply tb_ext
  intro k
  apply b_iff
  rw [hl h hh j k hj, hp h hh _ k h1 h2]
  exact ⟨fun q => ⟨q.1, q.2.symm⟩, fun q => ⟨q.1, q.2.symm⟩⟩
theorem tl_gV {nm : Nat → Nat → Nat} {c H M : Nat} {al pa : Nat → Nat → Nat} (hH : H ≤ 8) (hl : alO nm c H al) (hp : paO nm c H M pa) (hnm : ∀ i h, i < c → h < H → 1 ≤ nm i h ∧ nm i h ≤ M) : ∀ (f D w n : Nat), D < 256 → f + pc8 D = 8 → agr nm H D w → (∀ j, w.testBit j = true → j < c) → n ≤ 7 → (tl pa H M n w = true ↔ gV al c H f D w ≤ n) := by
  -- a door that was looked at tells nothing
  have hno : ∀ (D w n h : Nat), agr nm H D w → (∀ j, w.testBit j = true → j < c) → h < H → D.testBit h = true → ¬ one w = true → ¬ ((List.range M).all fun v => one (w &&& pa h (v + 1)) || (!decide (w &&& pa h (v + 1) = w) && tl pa H M n (w &&& pa h (v + 1)))) = true := by
    intro D w n h ha hw hh hD h1 hA
    rw [List.all_eq_true] at hA
    have h0 : w ≠ 0 := fun z => h1 (by rw [z]; rfl)
    obtain ⟨i, hi⟩ := Nat.exists_testBit_of_ne_zero h0
    have hb := hnm i h (hw i hi) hh
    have e : w &&& pa h (nm i h) = w := tb_ext (fun j => by
      rw [Nat.testBit_and]
      by_cases q : w.testBit j = true
      · rw [q, (hp h hh _ j hb.1 hb.2).mpr ⟨hw j q, ha j i h hh hD q hi⟩]; rfl
      · simp at q; rw [q]; rfl)
    have h2 := hA (nm i h - 1) (List.mem_range.mpr (by omega))
    rw [show nm i h - 1 + 1 = nm i h by omega, e] at h2
    simp at h2
    exact h1 h2
  intro f
  induction f with
  | zero =>
    intro D w n hD hf ha hw hn
    unfold gV
    by_cases h1 : one w = true
    · rw [if_pos h1, tl_one h1]; simp
    · rw [if_neg h1]
      refine ⟨fun h => ?_, fun h => by omega⟩
      exfalso
      cases n with
      | zero => unfold tl at h; exact h1 h
      | succ n =>
        unfold tl at h
        rw [Bool.or_eq_true] at h
        rcases h with h | h
        · exact h1 h
        · rw [List.any_eq_true] at h
          obtain ⟨h', hm, hA⟩ := h
          have hh := List.mem_range.mp hm
          exact hno D w n h' ha hw hh (pc_all D hD (by omega) h' (by omega)) h1 hA
  | succ f ih =>
    intro D w n hD hf ha hw hn
    unfold gV
    by_cases h1 : one w = true
    · rw [if_pos h1, tl_one h1]; simp
    · rw [if_neg h1]
      cases n with
      | zero =>
        have := gB_1 (W := fun h => wl (gV al c H f (D ||| 2 ^ h)) (al h) w c 0 0 w) (D := D) H
        unfold tl
        exact ⟨fun h => absurd h h1, fun h => by omega⟩
      | succ n =>
        rw [gB_le hn]
        unfold tl
        rw [Bool.or_eq_true, List.any_eq_true]
        constructor
        · rintro (h | ⟨h, hm, hA⟩)
          · exact absurd h h1
          · have hh := List.mem_range.mp hm
            have hnD : ¬ D.testBit h = true := fun z => hno D w n h ha hw hh z h1 hA
            refine ⟨h, hh, hnD, ?_⟩
            have hpc := pc_or D hD h (by omega) hnD
            rw [List.all_eq_true] at hA
            have : wl (gV al c H f (D ||| 2 ^ h)) (al h) w c 0 0 w ≤ n := by
              rw [wl_le (by omega) hw (fun i j hi hj q => by
                apply tb_ext; intro k; apply b_iff
                rw [hl h hh j k hj, hl h hh i k hi, ((hl h hh i j hi).mp q).2]) (fun i hi => (hl h hh i i hi).mpr ⟨hi, rfl⟩) c 0 0 w (by omega) (fun j hj => ⟨hj, Nat.zero_le j⟩)]
              refine ⟨Nat.zero_le n, fun j hj => ?_⟩
              have hb := hnm j h (hw j hj) hh
              rw [al_pa hl hp hh (hw j hj) hb.1 hb.2]
              have h2 := hA (nm j h - 1) (List.mem_range.mpr (by omega))
              rw [show nm j h - 1 + 1 = nm j h by omega, Bool.or_eq_true, Bool.and_eq_true] at h2
              have h3 : ¬ (w &&& pa h (nm j h) = w) ∧ tl pa H M n (w &&& pa h (nm j h)) = true := by
                rcases h2 with h2 | h2
                · exact ⟨fun z => h1 (by rw [z] at h2; exact h2), tl_one h2⟩
                · exact ⟨by simpa using h2.1, h2.2⟩
              refine ⟨h3.1, ?_⟩
              rw [← ih (D ||| 2 ^ h) _ n hpc.2 (by omega) (ha.sub (pa_sub hp hh hb.1 hb.2)) (fun k hk => hw k (pa_sub hp hh hb.1 hb.2 k hk).1) (by omega)]
              exact h3.2
            omega
        · rintro ⟨h, hh, hnD, hW⟩
          right
          refine ⟨h, List.mem_range.mpr hh, ?_⟩
          have hpc := pc_or D hD h (by omega) hnD
          have hW' : wl (gV al c H f (D ||| 2 ^ h)) (al h) w c 0 0 w ≤ n := by omega
          rw [wl_le (by omega) hw (fun i j hi hj q => by
            apply tb_ext; intro k; apply b_iff
            rw [hl h hh j k hj, hl h hh i k hi, ((hl h hh i j hi).mp q).2]) (fun i hi => (hl h hh i i hi).mpr ⟨hi, rfl⟩) c 0 0 w (by omega) (fun j hj => ⟨hj, Nat.zero_le j⟩)] at hW'
          rw [List.all_eq_true]
          intro v hv
          have hv := List.mem_range.mp hv
          by_cases h0 : w &&& pa h (v + 1) = 0
          · rw [h0]; rfl
          · obtain ⟨j, hj⟩ := Nat.exists_testBit_of_ne_zero h0
            have hj2 := pa_sub hp hh (by omega) (by omega) j hj
            have h3 := hW'.2 j hj2.1
            rw [al_pa hl hp hh (hw j hj2.1) (by omega) (by omega), hj2.2] at h3
            rw [Bool.or_eq_true, Bool.and_eq_true]
            right
            refine ⟨by simp [h3.1], ?_⟩
            rw [ih (D ||| 2 ^ h) _ n hpc.2 (by omega) (ha.sub (pa_sub hp hh (by omega) (by omega))) (fun k hk => hw k (pa_sub hp hh (by omega) (by omega) k hk).1) (by omega)]
            exact h3.2
/-- numberings that differ are told by as many looks as there are doors -/
theorem tl_all {nm : Nat → Nat → Nat} {c H M : Nat} {pa : Nat → Nat → Nat} (hH : H ≤ 8) (hp : paO nm c H M pa) (hd : ∀ i j, i < c → j < c → i ≠ j → ∃ h, h < H ∧ nm i h ≠ nm j h) : ∀ (f D w : Nat), D < 256 → f + pc8 D = 8 → agr nm H D w → (∀ j, w.testBit j = true → j < c) → tl pa H M f w = true := by
  have hone : ∀ w, ¬ one w = true → ∃ i j, w.testBit i = true ∧ w.testBit j = true ∧ i ≠ j := by
    intro w h1
    apply Classical.byContradiction
    intro hx
    exact h1 (one_few (fun i j hi hj => Classical.byContradiction fun q => hx ⟨i, j, hi, hj, q⟩))
  intro f
  induction f with
  | zero =>
    intro D w hD hf ha hw
    unfold tl
    apply Classical.byContradiction
    intro h1
    obtain ⟨i, j, hi, hj, hij⟩ := hone w h1
    obtain ⟨h, hh, hne⟩ := hd i j (hw i hi) (hw j hj) hij
    exact hne (ha i j h hh (pc_all D hD (by omega) h (by omega)) hi hj)
  | succ f ih =>
    intro D w hD hf ha hw
    unfold tl
    by_cases h1 : one w = true
    · rw [h1]; rfl
    obtain ⟨i, j, hi, hj, hij⟩ := hone w h1
    obtain ⟨h, hh, hne⟩ := hd i j (hw i hi) (hw j hj) hij
    have hnD : ¬ D.testBit h = true := fun z => hne (ha i j h hh z hi hj)
    have hpc := pc_or D hD h (by omega) hnD
    rw [Bool.or_eq_true, List.any_eq_true]
    right
    refine ⟨h, List.mem_range.mpr hh, ?_⟩
    rw [List.all_eq_true]
    intro v hv
    have hv := List.mem_range.mp hv
    have hs := pa_sub hp (w := w) hh (show 1 ≤ v + 1 by omega) (show v + 1 ≤ M by omega)
    rw [Bool.or_eq_true, Bool.and_eq_true]
    right
    refine ⟨?_, ih (D ||| 2 ^ h) _ hpc.2 (by omega) (ha.sub hs) (fun k hk => hw k (hs k hk).1)⟩
    have : ¬ (w &&& pa h (v + 1) = w) := fun z => by
      have hi2 := hs i (by rw [z]; exact hi)
      have hj2 := hs j (by rw [z]; exact hj)
      exact hne (hi2.2.trans hj2.2.symm)
    simp [this]
/-- the reference's count: left, n -/
def nl (pa : Nat → Nat → Nat) (H M w : Nat) : Nat → Nat → Nat
  | 0, n => n
  | k + 1, n => if tl pa H M n w then n else nl pa H M w k (n + 1)
theorem nl_gV {nm : Nat → Nat → Nat} {c H M : Nat} {al pa : Nat → Nat → Nat} (hH : H ≤ 8) (hl : alO nm c H al) (hp : paO nm c H M pa) (hnm : ∀ i h, i < c → h < H → 1 ≤ nm i h ∧ nm i h ≤ M) {w : Nat} (hw : ∀ j, w.testBit j = true → j < c) : nl pa H M w 8 0 = gV al c H 8 0 w := by
  have ha : agr nm H 0 w := fun i j h _ hD => by rw [Nat.zero_testBit] at hD; exact nomatch hD
  have key := fun n hn => tl_gV hH hl hp hnm 8 0 w n (by omega) (by decide) ha hw hn
  have h8 := gV_8 al c H 8 0 w
  have : ∀ k n, n + k = 8 → n ≤ gV al c H 8 0 w → nl pa H M w k n = gV al c H 8 0 w := by
    intro k
    induction k with
    | zero => intro n hn h; unfold nl; omega
    | succ k ih =>
      intro n hn h
      unfold nl
      by_cases q : tl pa H M n w = true
      · rw [if_pos q]
        have := (key n (by omega)).mp q
        omega
      · rw [if_neg q]
        apply ih (n + 1) (by omega)
        have : ¬ gV al c H 8 0 w ≤ n := fun z => q ((key n (by omega)).mpr z)
        omega
  exact this 8 0 (by omega) (Nat.zero_le _)
/-- found ones differ -/
def fInv (h : Nat) (N : Nat → Nat) (fs : List (Nat → Nat)) : Prop := ∀ f ∈ fs, ∃ j, j ≤ h ∧ (∀ i, i < j → f i = N i) ∧ f j ≤ N j ∧ (j < h → f j < N j)
def fDif (H : Nat) (fs : List (Nat → Nat)) : Prop := fs.Pairwise (fun f g => ∃ j, j < H ∧ f j ≠ g j)
def fRng (H M : Nat) (fs : List (Nat → Nat)) : Prop := ∀ f ∈ fs, ∀ j, j < H → 1 ≤ f j ∧ f j ≤ M
theorem sk_dif {T : (Nat → Nat) → Nat → Bool} {bar : Nat → Nat → Bool} {H M E : Nat} : ∀ (f h : Nat) (N : Nat → Nat) (t : Nat) (fs : List (Nat → Nat)) (res : Nat × List (Nat → Nat) × Bool), h ≤ H → (h = 0 ∨ fInv (h - 1) N fs) → fDif H fs → fRng H M fs → (∀ i, i + 1 < h → 1 ≤ N i) → (∀ i, N i ≤ M) → (∀ i, h ≤ i → N i = 0) → sk T bar H M E f h N t fs = some res → fDif H res.2.1 ∧ fRng H M res.2.1
  | 0, h, N, t, fs, res, _, _, _, _, _, _, _, hr => by unfold sk at hr; exact nomatch hr
  | f + 1, 0, N, t, fs, res, _, _, h2, h3, _, _, _, hr => by unfold sk at hr; cases hr; exact ⟨h2, h3⟩
  | f + 1, h + 1, N, t, fs, res, hh, h1, h2, h3, h4, h5, h6, hr => by
    unfold sk at hr
    have h1 : fInv h N fs := h1.resolve_left (by omega)
    by_cases c1 : M ≤ N h
    · rw [if_pos c1] at hr
      refine sk_dif f h _ t fs res (by omega) ?_ h2 h3 (fun i hi => by unfold upN; rw [if_neg (by omega)]; exact h4 i (by omega)) (fun i => by unfold upN; split; omega; exact h5 i) (fun i hi => by unfold upN; split; rfl; exact h6 i (by omega)) hr
      cases h with
      | zero => exact Or.inl rfl
      | succ h =>
        right
        intro g hg
        obtain ⟨j, hj, e1, e2, e3⟩ := h1 g hg
        show ∃ j, j ≤ h ∧ _
        rcases Nat.lt_or_ge j (h + 1) with q | q
        · exact ⟨j, by omega, fun i hi => by unfold upN; rw [if_neg (by omega)]; exact e1 i hi, by unfold upN; rw [if_neg (by omega)]; exact e2, fun q2 => by unfold upN; rw [if_neg (by omega)]; exact e3 q⟩
        · have e : j = h + 1 := by omega
          subst e
          exact ⟨h, by omega, fun i hi => by unfold upN; rw [if_neg (by omega)]; exact e1 i (by omega), by unfold upN; rw [if_neg (by omega), e1 h (by omega)]; exact Nat.le_refl _, fun q2 => absurd q2 (by omega)⟩
    · rw [if_neg c1] at hr
      have uLt : ∀ i, i < h → upN N h (N h + 1) i = N i := fun i hi => by unfold upN; rw [if_neg (by omega)]
      have uH : upN N h (N h + 1) h = N h + 1 := by unfold upN; rw [if_pos rfl]
      have hS : ∀ g ∈ fs, ∃ j, j ≤ h ∧ (∀ i, i < j → g i = upN N h (N h + 1) i) ∧ g j < upN N h (N h + 1) j := fun g hg => by
        obtain ⟨j, hj, e1, e2, e3⟩ := h1 g hg
        refine ⟨j, hj, fun i hi => by rw [uLt i (by omega)]; exact e1 i hi, ?_⟩
        rcases Nat.lt_or_ge j h with q | q
        · rw [uLt j q]; exact e3 q
        · have e : j = h := by omega
          subst e
          rw [uH]; omega
      have hI : fInv h (upN N h (N h + 1)) fs := fun g hg => by
        obtain ⟨j, hj, e1, e2⟩ := hS g hg
        exact ⟨j, hj, e1, by omega, fun _ => e2⟩
      have h4' : ∀ i, i + 1 < h + 1 → 1 ≤ upN N h (N h + 1) i := fun i hi => by rw [uLt i (by omega)]; exact h4 i (by omega)
      have h5' : ∀ i, upN N h (N h + 1) i ≤ M := fun i => by unfold upN; split; omega; exact h5 i
      have h6' : ∀ i, h + 1 ≤ i → upN N h (N h + 1) i = 0 := fun i hi => by unfold upN; rw [if_neg (by omega)]; exact h6 i hi
      have hNew : fDif H (upN N h (N h + 1) :: fs) := List.pairwise_cons.mpr ⟨fun g hg => by
        obtain ⟨j, hj, e1, e2⟩ := hS g hg
        exact ⟨j, by omega, by omega⟩, h2⟩
      by_cases c2 : bar h (N h + 1) = true
      · rw [if_pos c2] at hr
        exact sk_dif f (h + 1) _ t fs res hh (Or.inr hI) h2 h3 h4' h5' h6' hr
      · rw [if_neg c2] at hr
        by_cases c3 : t = 20000
        · rw [if_pos c3] at hr; cases hr; exact ⟨h2, h3⟩
        · rw [if_neg c3] at hr
          by_cases c4 : T (upN N h (N h + 1)) h = true
          · rw [if_pos c4] at hr
            by_cases c5 : h + 1 < H
            · rw [if_pos c5] at hr
              refine sk_dif f (h + 2) _ (t + 1) fs res (by omega) (Or.inr ?_) h2 h3 (fun i hi => ?_) h5' (fun i hi => h6' i (by omega)) hr
              · intro g hg
                obtain ⟨j, hj, e1, e2⟩ := hS g hg
                exact ⟨j, by show j ≤ h + 1; omega, e1, by omega, fun _ => e2⟩
              · rcases Nat.lt_or_ge i h with q | q
                · rw [uLt i q]; exact h4 i (by omega)
                · rw [show i = h by omega, uH]; omega
            · rw [if_neg c5] at hr
              have hR : fRng H M (upN N h (N h + 1) :: fs) := fun g hg j hj => by
                rcases List.mem_cons.mp hg with e | e
                · subst e
                  refine ⟨?_, h5' j⟩
                  rcases Nat.lt_or_ge j h with q | q
                  · rw [uLt j q]; exact h4 j (by omega)
                  · rw [show j = h by omega, uH]; omega
                · exact h3 g e j hj
              by_cases c6 : fs.length + 1 = E
              · rw [if_pos c6] at hr; cases hr; exact ⟨hNew, hR⟩
              · rw [if_neg c6] at hr
                refine sk_dif f (h + 1) _ (t + 1) _ res hh (Or.inr ?_) hNew hR h4' h5' h6' hr
                intro g hg
                rcases List.mem_cons.mp hg with e | e
                · subst e
                  exact ⟨h, Nat.le_refl h, fun _ _ => rfl, Nat.le_refl _, fun q => absurd q (by omega)⟩
                · exact hI g e
          · rw [if_neg c4] at hr
            exact sk_dif f (h + 1) _ (t + 1) fs res hh (Or.inr hI) h2 h3 h4' h5' h6' hr
theorem skTop_dif {T : (Nat → Nat) → Nat → Bool} {bar : Nat → Nat → Bool} {H M E : Nat} {res : Nat × List (Nat → Nat) × Bool} (hr : skTop T bar H M E = some res) : fDif H res.2.1 ∧ fRng H M res.2.1 := by
  unfold skTop at hr
  by_cases h0 : H = 0
  · rw [if_pos h0] at hr
    cases hr
    exact ⟨List.pairwise_singleton _ _, fun f _ j hj => by omega⟩
  · rw [if_neg h0] at hr
    exact sk_dif 100000 1 _ 0 [] res (by omega) (Or.inr (fun g hg => nomatch hg)) List.Pairwise.nil (fun g hg => nomatch hg) (fun i hi => by omega) (fun _ => Nat.zero_le M) (fun _ _ => rfl) hr
/-- the i-th found -/
def nmF (fs : List (Nat → Nat)) (i h : Nat) : Nat := (fs.reverse.getD i (fun _ => 0)) h
theorem nmF_lt {N : Nat → Nat} {fs : List (Nat → Nat)} {i : Nat} (h : i < fs.length) (k : Nat) : nmF (N :: fs) i k = nmF fs i k := by
  unfold nmF
  rw [List.reverse_cons, List.getD_eq_getElem?_getD, List.getD_eq_getElem?_getD, List.getElem?_append_left (by rw [List.length_reverse]; exact h)]
theorem nmF_eq {N : Nat → Nat} {fs : List (Nat → Nat)} (k : Nat) : nmF (N :: fs) fs.length k = N k := by
  unfold nmF
  rw [List.reverse_cons, List.getD_eq_getElem?_getD, List.getElem?_append_right (by rw [List.length_reverse]; exact Nat.le_refl _), List.length_reverse, Nat.sub_self]
  rfl
theorem nmF_dif {H : Nat} : ∀ {fs : List (Nat → Nat)}, fDif H fs → ∀ i j, i < fs.length → j < fs.length → i ≠ j → ∃ h, h < H ∧ nmF fs i h ≠ nmF fs j h
  | [], _, i, j, hi, _, _ => nomatch hi
  | N :: fs, hd, i, j, hi, hj, hij => by
    have hd := List.pairwise_cons.mp hd
    have hmem : ∀ i, i < fs.length → ∃ g ∈ fs, ∀ k, nmF (N :: fs) i k = g k := fun i hi => by
      refine ⟨fs.reverse[i]'(by rw [List.length_reverse]; exact hi), List.mem_reverse.mp (List.getElem_mem _), fun k => ?_⟩
      rw [nmF_lt hi]
      unfold nmF
      rw [List.getD_eq_getElem?_getD, List.getElem?_eq_getElem (by rw [List.length_reverse]; exact hi)]
      rfl
    rw [List.length_cons] at hi hj
    rcases Nat.lt_or_ge i fs.length with q1 | q1
    · rcases Nat.lt_or_ge j fs.length with q2 | q2
      · obtain ⟨h, hh, hne⟩ := nmF_dif hd.2 i j q1 q2 hij
        exact ⟨h, hh, by rw [nmF_lt q1, nmF_lt q2]; exact hne⟩
      · obtain ⟨g, hg, e⟩ := hmem i q1
        obtain ⟨h, hh, hne⟩ := hd.1 g hg
        refine ⟨h, hh, ?_⟩
        rw [e, show j = fs.length by omega, nmF_eq]
        exact fun z => hne z.symm
    · rcases Nat.lt_or_ge j fs.length with q2 | q2
      · obtain ⟨g, hg, e⟩ := hmem j q2
        obtain ⟨h, hh, hne⟩ := hd.1 g hg
        refine ⟨h, hh, ?_⟩
        rw [e, show i = fs.length by omega, nmF_eq]
        exact hne
      · omega
theorem nmF_rng {H M : Nat} : ∀ {fs : List (Nat → Nat)}, fRng H M fs → ∀ i h, i < fs.length → h < H → 1 ≤ nmF fs i h ∧ nmF fs i h ≤ M
  | [], _, i, _, hi, _ => nomatch hi
  | N :: fs, hr, i, h, hi, hh => by
    rw [List.length_cons] at hi
    rcases Nat.lt_or_ge i fs.length with q | q
    · rw [nmF_lt q]; exact nmF_rng (fun g hg => hr g (List.mem_cons_of_mem _ hg)) i h q hh
    · rw [show i = fs.length by omega, nmF_eq]; exact hr N List.mem_cons_self h hh

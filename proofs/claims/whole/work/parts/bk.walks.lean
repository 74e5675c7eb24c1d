/-! WALKS: pure -/
def faN (cr v w : Nat) : Nat := dst ((v + 1) / 2) ((w + 1) / 2) + (if v % 2 = w % 2 then 0 else cr)
theorem faN_le {cr v w : Nat} (hv : v ≤ 20) (hw : w ≤ 20) (hc : cr ≤ 9) : faN cr v w ≤ 20 := by
  unfold faN dst
  split <;> split <;> omega
def mnW (W : Nat → Nat) (D : Nat) : Nat → Nat
  | 0 => 2147483647
  | k + 1 => if D.testBit k = true then mnW W D k else min (mnW W D k) (W k)
theorem mnW_le {W : Nat → Nat} {D : Nat} : ∀ (c k : Nat), k < c → ¬ D.testBit k = true → mnW W D c ≤ W k
  | 0, k, h, _ => by omega
  | c + 1, k, h, hk => by
    unfold mnW
    rcases Nat.lt_or_ge k c with q | q
    · have := mnW_le (W := W) c k q hk
      split <;> omega
    · rw [show k = c by omega] at hk ⊢
      rw [if_neg hk]
      omega
theorem mnW_ge {W : Nat → Nat} {D a : Nat} (ha : a ≤ 2147483647) : ∀ (c : Nat), (∀ y, y < c → ¬ D.testBit y = true → a ≤ W y) → a ≤ mnW W D c
  | 0, _ => ha
  | c + 1, h => by
    unfold mnW
    have := mnW_ge (W := W) (D := D) ha c (fun y hy => h y (by omega))
    split
    · exact this
    · rename_i q
      have := h c (by omega) q
      omega
theorem mnW_top {W : Nat → Nat} {D : Nat} : ∀ (c : Nat), mnW W D c ≤ 2147483647
  | 0 => Nat.le_refl _
  | c + 1 => by
    unfold mnW
    have := mnW_top (W := W) (D := D) c
    split <;> omega
theorem mnW_cg {W V : Nat → Nat} {D : Nat} : ∀ (c : Nat), (∀ k, k < c → ¬ D.testBit k = true → W k = V k) → mnW W D c = mnW V D c
  | 0, _ => rfl
  | c + 1, h => by
    unfold mnW
    rw [mnW_cg c (fun k hk => h k (by omega))]
    split
    · rfl
    · rename_i q
      rw [h c (by omega) q]
theorem nfull {c D : Nat} (hD : D < 2 ^ c) (h : ¬ D = 2 ^ c - 1) : ∃ k, k < c ∧ ¬ D.testBit k = true := by
  apply Classical.byContradiction
  intro hz
  apply h
  apply tb_ext
  intro i
  rw [Nat.testBit_two_pow_sub_one]
  by_cases q : i < c
  · rw [decide_eq_true q]
    apply Classical.byContradiction
    exact fun hx => hz ⟨i, q, hx⟩
  · rw [decide_eq_false q]
    exact Nat.testBit_lt_two_pow (Nat.lt_of_lt_of_le hD (Nat.pow_le_pow_right (by decide) (by omega)))
theorem or_gt {c D k : Nat} (hD : D < 2 ^ c) (hk : k < c) (hb : ¬ D.testBit k = true) : D < D ||| 2 ^ k ∧ D ||| 2 ^ k < 2 ^ c := by
  refine ⟨Nat.lt_of_le_of_ne Nat.left_le_or (fun e => hb ?_), or_lt hk hD⟩
  rw [e, Nat.testBit_or, Nat.testBit_two_pow]
  simp
def sF (g : Nat → Nat) (cr c : Nat) : Nat → Nat → Nat → Nat
  | 0, _, _ => 0
  | F + 1, v, D => if D = 2 ^ c - 1 then 0 else mnW (fun k => faN cr v (g k) + sF g cr c F (g k) (D ||| 2 ^ k)) D c
theorem sF_le {g : Nat → Nat} {cr c : Nat} (hg : ∀ k, k < c → g k ≤ 20) (hc : cr ≤ 9) : ∀ (F v D : Nat), v ≤ 20 → D < 2 ^ c → sF g cr c F v D ≤ 20 * (2 ^ c - 1 - D)
  | 0, v, D, _, _ => Nat.zero_le _
  | F + 1, v, D, hv, hD => by
    unfold sF
    by_cases q : D = 2 ^ c - 1
    · rw [if_pos q]; exact Nat.zero_le _
    · rw [if_neg q]
      obtain ⟨k, hk, hb⟩ := nfull hD q
      have h1 := mnW_le (W := fun k => faN cr v (g k) + sF g cr c F (g k) (D ||| 2 ^ k)) c k hk hb
      have h2 := or_gt hD hk hb
      have h3 := sF_le hg hc F (g k) (D ||| 2 ^ k) (hg k hk) h2.2
      have h4 := faN_le (cr := cr) hv (hg k hk) hc
      omega
theorem sF_fu {g : Nat → Nat} {cr c : Nat} : ∀ (F G v D : Nat), D < 2 ^ c → 2 ^ c - 1 - D ≤ F → 2 ^ c - 1 - D ≤ G → sF g cr c F v D = sF g cr c G v D := by
  intro F
  induction F with
  | zero =>
    intro G v D hD h1 h2
    have e : D = 2 ^ c - 1 := by omega
    cases G with
    | zero => rfl
    | succ G => unfold sF; rw [if_pos e]
  | succ F ih =>
    intro G v D hD h1 h2
    by_cases q : D = 2 ^ c - 1
    · cases G with
      | zero => unfold sF; rw [if_pos q]
      | succ G => unfold sF; rw [if_pos q, if_pos q]
    · cases G with
      | zero => omega
      | succ G =>
        unfold sF
        rw [if_neg q, if_neg q]
        refine mnW_cg c (fun k hk hb => ?_)
        have h3 := or_gt hD hk hb
        rw [ih G (g k) (D ||| 2 ^ k) h3.2 (by omega) (by omega)]
/-- how long the rest is -/
def Lw (g : Nat → Nat) (cr c v D : Nat) : Nat := sF g cr c (2 ^ c) v D
def wW (g : Nat → Nat) (cr c v D k : Nat) : Nat := faN cr v (g k) + Lw g cr c (g k) (D ||| 2 ^ k)
theorem Lw_full {g : Nat → Nat} {cr c v : Nat} : Lw g cr c v (2 ^ c - 1) = 0 := by
  unfold Lw
  obtain ⟨F, hF⟩ : ∃ F, 2 ^ c = F + 1 := ⟨2 ^ c - 1, by have := Nat.two_pow_pos c; omega⟩
  rw [show sF g cr c (2 ^ c) v (2 ^ c - 1) = sF g cr c (F + 1) v (2 ^ c - 1) by rw [← hF]]
  unfold sF
  rw [if_pos rfl]
theorem Lw_eq {g : Nat → Nat} {cr c v D : Nat} (hD : D < 2 ^ c) (h : ¬ D = 2 ^ c - 1) : Lw g cr c v D = mnW (wW g cr c v D) D c := by
  obtain ⟨F, hF⟩ : ∃ F, 2 ^ c = F + 1 := ⟨2 ^ c - 1, by have := Nat.two_pow_pos c; omega⟩
  unfold Lw
  rw [show sF g cr c (2 ^ c) v D = sF g cr c (F + 1) v D by rw [← hF]]
  conv => lhs; unfold sF
  rw [if_neg h]
  refine mnW_cg c (fun k hk hb => ?_)
  have h3 := or_gt hD hk hb
  unfold wW Lw
  rw [sF_fu F (2 ^ c) (g k) (D ||| 2 ^ k) h3.2 (by omega) (by omega)]
theorem Lw_le {g : Nat → Nat} {cr c v D : Nat} (hg : ∀ k, k < c → g k ≤ 20) (hc : cr ≤ 9) (h10 : c ≤ 10) (hv : v ≤ 20) (hD : D < 2 ^ c) : Lw g cr c v D ≤ 20460 := by
  have h1 := sF_le hg hc (2 ^ c) v D hv hD
  have h2 : 2 ^ c ≤ 2 ^ 10 := Nat.pow_le_pow_right (by decide) h10
  unfold Lw
  omega
theorem wW_le {g : Nat → Nat} {cr c v D k : Nat} (hg : ∀ k, k < c → g k ≤ 20) (hc : cr ≤ 9) (h10 : c ≤ 10) (hv : v ≤ 20) (hD : D < 2 ^ c) (hk : k < c) : wW g cr c v D k ≤ 20480 := by
  have h1 := faN_le (cr := cr) hv (hg k hk) hc
  have h2 := Lw_le (D := D ||| 2 ^ k) hg hc h10 (hg k hk) (or_lt hk hD)
  unfold wW
  omega
def bsK (W : Nat → Nat) (D : Nat) : Nat → Option Nat
  | 0 => none
  | k + 1 => if D.testBit k = true then bsK W D k else match bsK W D k with
    | none => some k
    | some x => if W k < W x then some k else some x
theorem bsK_none {W : Nat → Nat} {D : Nat} : ∀ (k : Nat), bsK W D k = none → ∀ y, y < k → D.testBit y = true
  | 0, _, y, hy => by omega
  | k + 1, h, y, hy => by
    unfold bsK at h
    split at h
    · rename_i q
      rcases Nat.lt_or_ge y k with r | r
      · exact bsK_none k h y r
      · rw [show y = k by omega]; exact q
    · split at h
      · exact nomatch h
      · split at h <;> exact nomatch h
theorem bsK_some {W : Nat → Nat} {D : Nat} : ∀ (k : Nat) {x : Nat}, bsK W D k = some x → x < k ∧ ¬ D.testBit x = true ∧ ∀ y, y < k → ¬ D.testBit y = true → W x ≤ W y ∧ (y < x → W x < W y)
  | 0, x, h => nomatch h
  | k + 1, x, h => by
    unfold bsK at h
    split at h
    · rename_i q
      obtain ⟨h1, h2, h3⟩ := bsK_some k h
      refine ⟨by omega, h2, fun y hy hb => ?_⟩
      rcases Nat.lt_or_ge y k with r | r
      · exact h3 y r hb
      · rw [show y = k by omega] at hb; exact absurd q hb
    · rename_i q
      split at h
      · rename_i hn
        cases h
        refine ⟨by omega, q, fun y hy hb => ?_⟩
        rcases Nat.lt_or_ge y k with r | r
        · exact absurd (bsK_none k hn y r) hb
        · rw [show y = k by omega]; exact ⟨Nat.le_refl _, fun z => by omega⟩
      · rename_i z hs
        obtain ⟨h1, h2, h3⟩ := bsK_some k hs
        split at h
        · rename_i hl
          cases h
          refine ⟨by omega, q, fun y hy hb => ?_⟩
          rcases Nat.lt_or_ge y k with r | r
          · have := (h3 y r hb).1
            exact ⟨by omega, fun _ => by omega⟩
          · rw [show y = k by omega]; exact ⟨Nat.le_refl _, fun z => by omega⟩
        · rename_i hl
          cases h
          refine ⟨by omega, h2, fun y hy hb => ?_⟩
          rcases Nat.lt_or_ge y k with r | r
          · exact h3 y r hb
          · rw [show y = k by omega]; exact ⟨by omega, fun z => by omega⟩
theorem mn_bs {W : Nat → Nat} {D c x : Nat} (h : bsK W D c = some x) (hx : W x ≤ 2147483647) : mnW W D c = W x := by
  obtain ⟨h1, h2, h3⟩ := bsK_some c h
  exact Nat.le_antisymm (mnW_le c x h1 h2) (mnW_ge hx c (fun y hy hb => (h3 y hy hb).1))
theorem bs_ex {W : Nat → Nat} {D c : Nat} (hD : D < 2 ^ c) (h : ¬ D = 2 ^ c - 1) : ∃ x, bsK W D c = some x := by
  cases hx : bsK W D c with
  | some x => exact ⟨x, rfl⟩
  | none =>
    obtain ⟨k, hk, hb⟩ := nfull hD h
    exact absurd (bsK_none c hx k hk) hb
theorem bs_no {W : Nat → Nat} {c : Nat} : bsK W (2 ^ c - 1) c = none := by
  cases hx : bsK W (2 ^ c - 1) c with
  | none => rfl
  | some x =>
    obtain ⟨h1, h2, h3⟩ := bsK_some c hx
    exact absurd (by rw [Nat.testBit_two_pow_sub_one, decide_eq_true h1]) h2
def nxW (W : Nat → Nat) (D S : Nat) : Nat → Nat → Nat
  | 0, nx => nx
  | k + 1, nx => nxW W D S k (if D.testBit k = false ∧ W k = S then k else nx)
theorem nxW_no {W : Nat → Nat} {D S : Nat} : ∀ (k nx : Nat), (∀ y, y < k → ¬ (D.testBit y = false ∧ W y = S)) → nxW W D S k nx = nx
  | 0, _, _ => rfl
  | k + 1, nx, h => by
    unfold nxW
    rw [if_neg (h k (by omega)), nxW_no k nx (fun y hy => h y (by omega))]
theorem nxW_at {W : Nat → Nat} {D S x : Nat} (hx : D.testBit x = false ∧ W x = S) (h : ∀ y, y < x → ¬ (D.testBit y = false ∧ W y = S)) : ∀ (k nx : Nat), x < k → nxW W D S k nx = x
  | 0, _, hk => by omega
  | k + 1, nx, hk => by
    unfold nxW
    rcases Nat.lt_or_ge x k with q | q
    · exact nxW_at hx h k _ q
    · have e : x = k := by omega
      subst e
      rw [if_pos hx, nxW_no _ _ h]
theorem nx_bs {W : Nat → Nat} {D c x : Nat} (h : bsK W D c = some x) : nxW W D (W x) c 0 = x := by
  obtain ⟨h1, h2, h3⟩ := bsK_some c h
  refine nxW_at ⟨by simpa using h2, rfl⟩ (fun y hy hz => ?_) c 0 h1
  have := (h3 y (by omega) (by rw [hz.1]; decide)).2 hy
  omega
def cnB (D : Nat) : Nat → Nat
  | 0 => 0
  | k + 1 => cnB D k + (if D.testBit k = true then 1 else 0)
theorem cnB_le (D : Nat) : ∀ k, cnB D k ≤ k
  | 0 => Nat.le_refl _
  | k + 1 => by
    unfold cnB
    have := cnB_le D k
    split <;> omega
theorem cnB_all {D : Nat} : ∀ k, cnB D k = k → ∀ i, i < k → D.testBit i = true
  | 0, _, i, hi => by omega
  | k + 1, h, i, hi => by
    unfold cnB at h
    have := cnB_le D k
    split at h
    · rename_i q
      rcases Nat.lt_or_ge i k with r | r
      · exact cnB_all k (by omega) i r
      · rw [show i = k by omega]; exact q
    · omega
theorem cnB_0 : ∀ k, cnB 0 k = 0
  | 0 => rfl
  | k + 1 => by unfold cnB; rw [cnB_0 k, Nat.zero_testBit]; rfl
theorem cnB_cg {D E : Nat} : ∀ k, (∀ i, i < k → D.testBit i = E.testBit i) → cnB D k = cnB E k
  | 0, _ => rfl
  | k + 1, h => by
    unfold cnB
    rw [cnB_cg k (fun i hi => h i (by omega)), h k (by omega)]
theorem cnB_or {D x : Nat} (hb : ¬ D.testBit x = true) : ∀ k, x < k → cnB (D ||| 2 ^ x) k = cnB D k + 1
  | 0, hk => by omega
  | k + 1, hk => by
    unfold cnB
    rcases Nat.lt_or_ge x k with q | q
    · rw [cnB_or hb k q, Nat.testBit_or, Nat.testBit_two_pow, decide_eq_false (by omega), Bool.or_false]
      omega
    · have e : x = k := by omega
      subst e
      rw [cnB_cg (E := D) x (fun i hi => by rw [Nat.testBit_or, Nat.testBit_two_pow, decide_eq_false (by omega), Bool.or_false]), if_neg hb, Nat.testBit_or, Nat.testBit_two_pow, decide_eq_true rfl, Bool.or_true, if_pos rfl]
theorem cnB_full {D c : Nat} (hD : D < 2 ^ c) (h : cnB D c = c) : D = 2 ^ c - 1 := by
  apply Classical.byContradiction
  intro hz
  obtain ⟨k, hk, hb⟩ := nfull hD hz
  exact hb (cnB_all c h k hk)
theorem cnB_1 {c : Nat} : cnB (2 ^ c - 1) c = c := by
  have : ∀ k, k ≤ c → cnB (2 ^ c - 1) k = k := by
    intro k
    induction k with
    | zero => intro _; rfl
    | succ k ih =>
      intro hk
      unfold cnB
      rw [ih (by omega), Nat.testBit_two_pow_sub_one, decide_eq_true (by omega : k < c)]
      rfl
  exact this c (Nat.le_refl _)
/-- the row of a walk -/
def wkL (g : Nat → Nat) (cr c : Nat) : Nat → Nat → Nat → List Nat
  | 0, _, _ => []
  | k + 1, v, D => match bsK (wW g cr c v D) D c with
    | none => []
    | some x => g x :: wkL g cr c k (g x) (D ||| 2 ^ x)
/-- the numbers of a set, from 1 -/
def gls (w : Nat) : Nat → List Nat
  | 0 => []
  | n + 1 => if w.testBit (n + 1) = true then gls w n ++ [n + 1] else gls w n
theorem gls_len {w : Nat} (h0 : w.testBit 0 = false) : ∀ n, n < 31 → (gls w n).length = pcF (nI w) (n + 1)
  | 0, _ => by show 0 = 0 + (if bt (nI w) 0 = true then 1 else 0); rw [bt_nI w (i := 0) (by decide), h0]; rfl
  | n + 1, hn => by
    have ih := gls_len h0 n (by omega)
    show (gls w (n + 1)).length = pcF (nI w) (n + 1) + (if bt (nI w) (n + 1) = true then 1 else 0)
    rw [bt_nI _ (by omega)]
    unfold gls
    split
    · rw [List.length_append, ih]; rfl
    · rw [ih]; rfl
theorem gls_mem {w v : Nat} : ∀ n, v ∈ gls w n → 1 ≤ v ∧ v ≤ n
  | 0, h => by simp [gls] at h
  | n + 1, h => by
    unfold gls at h
    split at h
    · rcases List.mem_append.mp h with q | q
      · have := gls_mem n q; omega
      · have := List.mem_singleton.mp q; omega
    · have := gls_mem n h; omega
theorem gls_mono (w n : Nat) : ∀ k, (gls w n).length ≤ (gls w (n + k)).length
  | 0 => Nat.le_refl _
  | k + 1 => by
    have := gls_mono w n k
    have e : gls w (n + (k + 1)) = if w.testBit (n + k + 1) = true then gls w (n + k) ++ [n + k + 1] else gls w (n + k) := rfl
    rw [e]
    split
    · rw [List.length_append]; omega
    · exact this
theorem gls_stop {w n : Nat} : ∀ k, (gls w (n + k)).length ≤ (gls w n).length → gls w (n + k) = gls w n
  | 0, _ => rfl
  | k + 1, h => by
    have hm := gls_mono w n k
    have e : gls w (n + (k + 1)) = if w.testBit (n + k + 1) = true then gls w (n + k) ++ [n + k + 1] else gls w (n + k) := rfl
    rw [e] at h ⊢
    split at h
    · rw [List.length_append] at h
      simp only [List.length_cons, List.length_nil] at h
      omega
    · rename_i q
      rw [if_neg q]
      exact gls_stop k h
theorem gls_hi {w b : Nat} (hw : w < 2 ^ (b + 1)) : ∀ k, gls w (b + k) = gls w b
  | 0 => rfl
  | k + 1 => by
    have e : gls w (b + (k + 1)) = if w.testBit (b + k + 1) = true then gls w (b + k) ++ [b + k + 1] else gls w (b + k) := rfl
    rw [e, Nat.testBit_lt_two_pow (Nat.lt_of_lt_of_le hw (Nat.pow_le_pow_right (by decide) (by omega))), if_neg (by decide), gls_hi hw k]
def gN (gl : List Nat) (k : Nat) : Nat := gl.getD k 0
theorem gN_le {gl : List Nat} (h : ∀ v ∈ gl, v ≤ 20) (k : Nat) : gN gl k ≤ 20 := by
  unfold gN
  rw [List.getD_eq_getElem?_getD]
  cases hx : gl[k]? with
  | none => simp
  | some v => exact h v (List.mem_of_getElem? hx)
/-- the numbers that some houses may have -/
def woN (fs : List (Nat → Nat)) (S : Nat) : Nat → Nat
  | 0 => 0
  | h + 1 => if S.testBit h = true then woN fs S h ||| mayN fs h else woN fs S h
theorem woN_bit {fs : List (Nat → Nat)} {H M S : Nat} (hr : fRng H M fs) : ∀ k, k ≤ H → ∀ v, (woN fs S k).testBit v = true → 1 ≤ v ∧ v ≤ M
  | 0, _, v, h => by unfold woN at h; rw [Nat.zero_testBit] at h; exact nomatch h
  | k + 1, hk, v, h => by
    unfold woN at h
    split at h
    · rw [Nat.testBit_or, Bool.or_eq_true] at h
      rcases h with h | h
      · exact woN_bit hr k (by omega) v h
      · obtain ⟨N, n1, n2⟩ := (mayN_bit _ _ _).mp h
        have := hr N n1 k (by omega)
        omega
    · exact woN_bit hr k (by omega) v h
theorem woN_lt {fs : List (Nat → Nat)} {H M S : Nat} (hr : fRng H M fs) (k : Nat) (hk : k ≤ H) : woN fs S k < 2 ^ (M + 1) := Nat.lt_pow_two_of_testBit _ (fun v hv => by
  cases hx : (woN fs S k).testBit v
  · rfl
  · have := woN_bit hr k hk v hx
    omega)
theorem far_rm : ∀ v, v ≤ 20 → ∀ w, w ≤ 20 → ((nI v - nI w) - (nI v - nI w) / nI 2 * nI 2 = 0 ↔ v % 2 = w % 2) := by decide +kernel
def wkO (H M : Nat) (y p x : Int32) : Bool := (!decide (y < 0) && decide (y < nI (2 ^ H))) && (!decide (p < nI 1) && decide (p ≤ nI M)) && (!decide (x < 0) && !decide (nI 9 < x))
def wkG (fs : List (Nat → Nat)) (S H : Nat) : List Nat := gls (woN fs S H) 20
/-- how long a walk is, and its row -/
def wkV (fs : List (Nat → Nat)) (S H p cr : Nat) : Nat := Lw (gN (wkG fs S H)) cr (wkG fs S H).length p 0
def wkR (fs : List (Nat → Nat)) (S H p cr : Nat) : List Nat := wkL (gN (wkG fs S H)) cr (wkG fs S H).length (wkG fs S H).length p 0
theorem wkL_len {g : Nat → Nat} {cr c : Nat} : ∀ (k v D : Nat), D < 2 ^ c → cnB D c + k = c → (wkL g cr c k v D).length = k
  | 0, _, _, _, _ => rfl
  | k + 1, v, D, hD, h => by
    unfold wkL
    obtain ⟨x, hx⟩ := bs_ex (W := wW g cr c v D) hD (fun e => by rw [e, cnB_1] at h; omega)
    obtain ⟨h1, h2, -⟩ := bsK_some c hx
    rw [hx]
    show (_ :: wkL g cr c k (g x) (D ||| 2 ^ x)).length = _
    rw [List.length_cons, wkL_len k (g x) (D ||| 2 ^ x) (or_gt hD h1 h2).2 (by rw [cnB_or h2 c h1]; omega)]

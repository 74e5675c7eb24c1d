/-! WHAT IS: one state, in the class's memory and in the reference's -/
abbrev Lf : Type := (Nat → Nat) × (Nat → Nat) × (Nat → Bool) × List (Nat × Nat × Nat) × List (Nat × Nat)
/-- a life as it may be -/
def okL (H M : Nat) (e : Lf) : Prop := (∀ h, h < H → e.1 h ≤ 99 ∧ e.2.1 h ≤ 99) ∧ (e.2.2.2.1.length ≤ 30 ∧ ∀ a ∈ e.2.2.2.1, a.1 < 3 ∧ a.2.1 < H ∧ a.2.2 ≤ 99 ∧ (a.1 = 2 → a.2.2 ≤ 1)) ∧ (e.2.2.2.2.length ≤ 10 ∧ ∀ q ∈ e.2.2.2.2, q.1 < H ∧ 1 ≤ q.2 ∧ q.2 ≤ M)
/-- a street as it may be -/
def okS (H M : Nat) (cs : Nat → List Nat) : Prop := (2 ≤ M ∧ M ≤ 20) ∧ H ≤ 8 ∧ ofs cs H ≤ 500 ∧ ∀ h, h < H → (cs h ≠ [] → okd (cs h) 0) ∧ ∀ c ∈ cs h, c < 20012 ∧ (10000 ≤ c → c < 20000 → c < 10009)
def acN (a : Nat × Nat × Nat) : Nat := 1000 * a.1 + 100 * a.2.1 + a.2.2
def cL (I : mI) (f H : Nat) (e : Lf) : Prop := (∀ h, h < H → I (f + 1) h = nI (e.1 h) ∧ I (f + 2) h = nI (e.2.1 h)) ∧ (∀ i, i < 32 → bt (I f 2) i = (decide (i < H) && e.2.2.1 i)) ∧ (I f 4 = nI e.2.2.2.1.length ∧ ∀ j, j < e.2.2.2.1.length → I (f + 3) j = nI (acN (e.2.2.2.1.getD j (0, 0, 0)))) ∧ (I f 7 = nI e.2.2.2.2.length ∧ ∀ j, j < e.2.2.2.2.length → I (f + 4) j = nI (e.2.2.2.2.getD j (0, 0)).1 ∧ I (f + 5) j = nI (e.2.2.2.2.getD j (0, 0)).2)
/-- the reference's life: rows ms of sons, debts, muted, acts, letters, and how many there are of the last two -/
def rLx (So De Mu Ac Le : Nat → Int32) (na nl : Int32) (H : Nat) (e : Lf) : Prop := (∀ h, h < H → So h = nI (e.1 h) ∧ De h = nI (e.2.1 h) ∧ Mu h = bz (e.2.2.1 h)) ∧ (na = nI e.2.2.2.1.length ∧ ∀ j, j < e.2.2.2.1.length → Ac (3 * j) = nI (e.2.2.2.1.getD j (0, 0, 0)).2.1 ∧ Ac (3 * j + 1) = nI (e.2.2.2.1.getD j (0, 0, 0)).1 ∧ Ac (3 * j + 2) = nI (e.2.2.2.1.getD j (0, 0, 0)).2.2) ∧ (nl = nI e.2.2.2.2.length ∧ ∀ j, j < e.2.2.2.2.length → Le (2 * j) = nI (e.2.2.2.2.getD j (0, 0)).1 ∧ Le (2 * j + 1) = nI (e.2.2.2.2.getD j (0, 0)).2)
def rL (I : mI) (m H : Nat) (e : Lf) : Prop := rLx (I (m + 1)) (I (m + 2)) (I (m + 4)) (I (m + 23)) (I (m + 24)) (I m 45) (I m 47) H e
def rLi (I : mI) (m H : Nat) (e : Lf) : Prop := rLx (I (m + 51)) (I (m + 52)) (I (m + 53)) (I (m + 54)) (I (m + 55)) (I m 91) (I m 92) H e
/-- a riddle's text as the reference writes it, out of a row -/
def wrT (X : Nat → Int32) : Nat → Nat → Int32 → Bool → List Int32
  | 0, _, _, _ => []
  | k + 1, p, la, ap => if X p = nI 32 ∨ X p = nI 10 then wrT X k (p + 1) la true else (if ((ap || (isL (X p) != isL la)) && (wdl (X p) && wdl la)) = true then [nI 32] else []) ++ X p :: wrT X k (p + 1) (X p) false
def cS (I : mI) (b H M : Nat) (un : Bool) (cs : Nat → List Nat) (tx : Nat → List Int32) : Prop := stM cs H I b ∧ I b 1 = nI M ∧ I b 2 = bz un ∧ I b 6 = nI (ofs cs H) ∧ ∀ h, h < H → ∃ a, I (b + 6) h = nI a ∧ I (b + 7) h = nI (a + (tx h).length) ∧ a + (tx h).length ≤ 1000 ∧ ∀ j, j < (tx h).length → I (b + 5) (a + j) = (tx h).getD j 0
def rS (I : mI) (m H M : Nat) (un : Bool) (cs : Nat → List Nat) (tx : Nat → List Int32) : Prop := (I m 1 = nI H ∧ I m 2 = nI M ∧ I m 3 = bz un) ∧ (I m 54 = -1 ∧ I m 58 = -1) ∧ ∀ h, h < H → I (m + 3) h = (if cs h = [] then nI 0 else nI 1) ∧ I (m + 6) h = nI (lkm 0 (cs h) % 256) ∧ (cs h ≠ [] → (∃ a, I (m + 5) h = nI a ∧ rcs (I (m + 7)) (cs h) a) ∧ ∃ p q, I (m + 9) h = nI p ∧ I (m + 10) h = nI (p + q) ∧ p + q ≤ 500 ∧ wrT (I (m + 8)) q p (nI 32) false = tx h)
def sBy (v : Nat) : Int32 := (nI v).toInt8.toInt32
def cT (I : mI) (o t : Nat) (T : Nat → Nat) (fp : Int32) (rr : Nat → Int32) : Prop := I o 1 = nI t ∧ (∀ j, j < t → I (o + 1) j = sBy (T j)) ∧ I o 2 = fp ∧ ∀ j, j < 3 → I (o + 2) j = rr j
def rT (I : mI) (m t : Nat) (T : Nat → Nat) (fp : Int32) (rr : Nat → Int32) : Prop := I m 15 = nI t ∧ (∀ j, j < t → I (m + 11) j = nI (T j)) ∧ I m 17 = fp ∧ ∀ j, j < 3 → I (m + 12) j = rr j
def okT (t : Nat) (T : Nat → Nat) : Prop := t ≤ 500 ∧ ∀ j, j < t → T j < 256
def cI (I : mI) (o H M : Nat) (im : Option Lf) : Prop := match im with
  | none => I o 9 = nI 0
  | some e => I o 9 = nI 1 ∧ cL I (o + 35) H e ∧ okL H M e
def rI9 (I : mI) (m H : Nat) (im : Option Lf) : Prop := match im with
  | none => I m 90 = nI 0
  | some e => I m 90 = nI 1 ∧ rLi I m H e
def cW (I : mI) (o : Nat) (wk : Option (List Nat)) : Prop := match wk with
  | none => I (o + 58) 6 = nI 0
  | some w => I (o + 58) 6 = nI 1 ∧ I (o + 58) 5 = nI w.length ∧ w.length ≤ 10 ∧ ∀ j, j < w.length → I (o + 60) j = nI (w.getD j 0)
def rW (I : mI) (m : Nat) (wk : Option (List Nat)) : Prop := match wk with
  | none => I m 74 = -1
  | some w => I m 74 = nI w.length ∧ ∀ j, j < w.length → I (m + 37) j = nI (w.getD j 0)
/-- letters as a row -/
def LtO (Ls : List (Nat × Nat)) (j : Nat) : Int32 := if j % 2 = 0 then nI (Ls.getD (j / 2) (0, 0)).1 else nI (Ls.getD (j / 2) (0, 0)).2
def lkO (cs : Nat → List Nat) (H h : Nat) : Nat := lkm 0 (cs h) % 2 ^ H
def tvO (H M : Nat) (cs : Nat → List Nat) (e : Lf) : (Nat → Nat) → Nat → Bool := tvN (fun h => nI (e.1 h)) (fun h => nI (e.2.1 h)) (nI M) H cs
def zT (H M : Nat) (un : Bool) (cs : Nat → List Nat) (e : Lf) (r w : Int32) : (Nat → Nat) → Nat → Bool := TN un (LtO e.2.2.2.2) e.2.2.2.2.length r w (lkO cs H) (tvO H M cs e) H
/-- what a search finds -/
def zR (H M : Nat) (un : Bool) (cs : Nat → List Nat) (e : Lf) (r w : Int32) (E : Nat) : Nat × List (Nat → Nat) × Bool := (skTop (zT H M un cs e r w) noB H M E).getD (0, [], false)
/-- riddles that speak -/
def spB (H : Nat) (cs : Nat → List Nat) (e : Lf) : Nat := alB (fun h => !(cs h).isEmpty && !e.2.2.1 h) H
/-- all numberings -/
def zN (H M : Nat) (un : Bool) (cs : Nat → List Nat) (e : Lf) : Nat × List (Nat → Nat) × Bool := zR H M un cs e (nI (spB H cs e)) (nI 1) 1001
def dgs (v : Nat) : List Int32 := (if 9 < v then [nI (48 + v / 10)] else []) ++ [nI (48 + v % 10)]
def hsP (cs : Nat → List Nat) (tx : Nat → List Int32) (e : Lf) (h : Nat) : List Int32 := [nI 104, nI 111, nI 117, nI 115, nI 101, nI 32] ++ dgs (e.1 h) ++ [nI 32] ++ dgs (e.2.1 h) ++ (if cs h = [] then [] else [nI 32, nI 115, nI 97, nI 121, nI 115, nI 32] ++ tx h) ++ [nI 59]
def hssP (cs : Nat → List Nat) (tx : Nat → List Int32) (e : Lf) : Nat → List Int32
  | 0 => []
  | h + 1 => hssP cs tx e h ++ hsP cs tx e h
/-- the street written -/
def pgO (H M : Nat) (un : Bool) (cs : Nat → List Nat) (tx : Nat → List Int32) (e : Lf) : List Int32 := [nI 109, nI 111, nI 115, nI 116, nI 32] ++ dgs M ++ [nI 59] ++ (if un then [nI 117, nI 110, nI 108, nI 105, nI 107, nI 101, nI 59] else []) ++ hssP cs tx e H
def cQ9 (I : mI) (J : mJ) (o H M : Nat) (un : Bool) (cs : Nat → List Nat) (e : Lf) : Prop := I o 11 = nI 0 ∨ (I o 11 = nI 1 ∧ I (o + 41) 9 = nI (zN H M un cs e).1 ∧ I (o + 41) 10 = skA (zN H M un cs e) ∧ (∃ S0 : Nat → Int32, I (o + 46) = SR H (fun j => if j < 8 then nI 0 else S0 j) (zN H M un cs e).2.1) ∧ ∃ J0 : Nat → Int64, J (o + 45) = JR H J0 (zN H M un cs e).2.1)
def cP9 (I : mI) (o H M : Nat) (un : Bool) (cs : Nat → List Nat) (tx : Nat → List Int32) (e : Lf) : Prop := I o 18 = nI 0 ∨ (I o 18 = nI 1 ∧ I (o + 67) 1 = nI (pgO H M un cs tx e).length ∧ (pgO H M un cs tx e).length ≤ 1200 ∧ ∀ j, j < (pgO H M un cs tx e).length → I (o + 68) j = (pgO H M un cs tx e).getD j 0)
/-- the row that looking keeps lies behind all -/
def scr2 (kd : mK) (P : mP) (o n : Nat) : Prop := P (o + 56) 3 = none ∨ ∃ z, P (o + 56) 3 = some z ∧ kd z = some (1, 10240) ∧ o + 125 < z ∧ z < n
theorem scr2.w {kd : mK} {P : mP} {o n : Nat} (h : scr2 kd P o n) : scr kd P o n := h.imp id (fun ⟨z, a, b, c, d⟩ => ⟨z, a, b, Or.inr (by omega), d⟩)
/-- the state in the class's memory -/
def CR (o b s f l n : Nat) (kd : mK) (I : mI) (J : mJ) (P : mP) (t : Nat) (T : Nat → Nat) (fp : Int32) (rr : Nat → Int32) (H M : Nat) (un : Bool) (cs : Nat → List Nat) (tx : Nat → List Int32) (e : Lf) (im : Option Lf) (wk : Option (List Nat)) : Prop := kX kd P o b s f l ∧ scr2 kd P o n ∧ cT I o t T fp rr ∧ cS I b H M un cs tx ∧ cL I f H e ∧ cI I o H M im ∧ cW I o wk ∧ cQ9 I J o H M un cs e ∧ cP9 I o H M un cs tx e
/-- the state in the reference's memory -/
def RR (m : Nat) (kd : mK) (I : mI) (P : mP) (t : Nat) (T : Nat → Nat) (fp : Int32) (rr : Nat → Int32) (H M : Nat) (un : Bool) (cs : Nat → List Nat) (tx : Nat → List Int32) (e : Lf) (im : Option Lf) (wk : Option (List Nat)) : Prop := kM kd P m ∧ rT I m t T fp rr ∧ rS I m H M un cs tx ∧ rL I m H e ∧ rI9 I m H im ∧ rW I m wk
def okZ (t : Nat) (T : Nat → Nat) (H M : Nat) (cs : Nat → List Nat) (e : Lf) : Prop := okT t T ∧ okS H M cs ∧ okL H M e
theorem lkm_mono : ∀ (cs : List Nat) (m t : Nat), m.testBit t = true → (lkm m cs).testBit t = true
  | [], m, t, h => h
  | c :: cs, m, t, h => by
    show (lkm (if 10000 ≤ c ∧ c < 20000 then m ||| 2 ^ (c - 10000) else m) cs).testBit t = true
    refine lkm_mono cs _ t ?_
    split
    · rw [Nat.testBit_or, h]; rfl
    · exact h
theorem lkm_mem : ∀ (cs : List Nat) (m t : Nat), t < 10000 → 10000 + t ∈ cs → (lkm m cs).testBit t = true
  | [], m, t, _, h => by simp at h
  | c :: cs, m, t, ht, h => by
    show (lkm (if 10000 ≤ c ∧ c < 20000 then m ||| 2 ^ (c - 10000) else m) cs).testBit t = true
    rcases List.mem_cons.mp h with h | h
    · refine lkm_mono cs _ t ?_
      rw [if_pos (by omega), Nat.testBit_or, Nat.testBit_two_pow, show c - 10000 = t by omega]
      simp
    · exact lkm_mem cs _ t ht h
theorem lkm_lt : ∀ (cs : List Nat) (m : Nat), m < 512 → (∀ c ∈ cs, 10000 ≤ c → c < 20000 → c < 10009) → lkm m cs < 512
  | [], m, h, _ => h
  | c :: cs, m, h, hc => by
    show lkm (if 10000 ≤ c ∧ c < 20000 then m ||| 2 ^ (c - 10000) else m) cs < 512
    refine lkm_lt cs _ ?_ (fun d hd => hc d (List.mem_cons_of_mem _ hd))
    split
    · rename_i q
      have := hc c List.mem_cons_self q.1 q.2
      exact Nat.or_lt_two_pow (n := 9) h (Nat.pow_lt_pow_right (by decide) (by omega))
    · exact h
theorem look_maskM {H n : Nat} (hH : H ≤ 8) (hn : n < 2 ^ 31) : nI n &&& ((nI 1 <<< (nI H &&& 31)) - nI 1) = nI (n % 2 ^ H) := by
  rw [pk_andN (by omega) H (mask_H H hH)]
theorem ofs_inn (cs : Nat → List Nat) {h H : Nat} (hh : h < H) : ofs cs h + (cs h).length ≤ ofs cs H := by
  induction H with
  | zero => omega
  | succ H ih =>
    show _ ≤ ofs cs H + (cs H).length
    rcases Nat.lt_or_ge h H with q | q
    · have := ih q; omega
    · rw [show h = H by omega]; exact Nat.le_refl _
theorem z_cl {I : mI} {b f H M : Nat} {un : Bool} {cs : Nat → List Nat} {tx : Nat → List Int32} {e : Lf} (hS : cS I b H M un cs tx) (hL : cL I f H e) (oS : okS H M cs) (oL : okL H M e) : clS I b f H M e.2.2.2.2.length (lkO cs H) cs un (LtO e.2.2.2.2) (I (f + 1)) (I (f + 2)) := by
  obtain ⟨⟨h1, h2, h3⟩, hM, hu, -, -⟩ := hS
  obtain ⟨-, -, -, l7, lR⟩ := hL
  obtain ⟨⟨-, hM20⟩, hH, hof, hcs⟩ := oS
  refine ⟨h1, hM, ?_, fun h hh => ?_, fun k hk hx => ?_, ⟨l7, oL.2.2.1⟩, fun i hi => ?_, rfl, rfl⟩
  · rw [hu]; cases un <;> rfl
  · refine ⟨?_, Nat.mod_lt _ (Nat.two_pow_pos _)⟩
    rw [(h3 h hh).1, h1]
    exact look_maskM hH (Nat.lt_trans (lkm_lt _ _ (by decide) (fun c hc => ((hcs h hh).2 c hc).2)) (by decide))
  · rw [h2 k (by omega), Bool.and_eq_true, decide_eq_true_eq] at hx
    have hk2 := h3 k hx.1
    have hne : cs k ≠ [] := fun z => by simp [z] at hx
    have hof2 := ofs_inn cs hx.1
    refine ⟨hx.1, ofs cs k, hk2.2.1, hk2.2.2.1, by omega, fun j hj => ?_, (hcs k hx.1).1 hne, fun c hc => ((hcs k hx.1).2 c hc).1⟩
    rw [hk2.2.2.2 j hj]
    simp [List.getD, List.getElem?_eq_getElem hj]
  · have hq := lR i hi
    have hm : e.2.2.2.2.getD i (0, 0) ∈ e.2.2.2.2 := by
      rw [List.getD, List.getElem?_eq_getElem hi]
      exact List.getElem_mem hi
    have hv := (oL.2.2.2 _ hm).2.2
    refine ⟨?_, ?_, (e.2.2.2.2.getD i (0, 0)).2, by omega, hq.2⟩
    · unfold LtO
      rw [if_pos (by omega), show 2 * i / 2 = i by omega]
      exact hq.1
    · unfold LtO
      rw [if_neg (by omega), show (2 * i + 1) / 2 = i by omega]
      exact hq.2
theorem z_rf {I : mI} {m H M : Nat} {kd : mK} {P : mP} {un : Bool} {cs : Nat → List Nat} {tx : Nat → List Int32} {e : Lf} (hk : kM kd P m) (hS : rS I m H M un cs tx) (hL : rL I m H e) (oS : okS H M cs) (oL : okL H M e) : rfS kd P I m H M e.2.2.2.2.length (lkO cs H) cs un (I (m + 24)) (I (m + 1)) (I (m + 2)) (fun k => !(cs k).isEmpty) := by
  obtain ⟨⟨h1, h2, hu⟩, ⟨h54, h58⟩, h3⟩ := hS
  obtain ⟨-, -, l7, lR⟩ := hL
  obtain ⟨⟨-, hM20⟩, hH, hof, hcs⟩ := oS
  refine ⟨hk, h1, h2, ?_, ⟨l7, oL.2.2.1⟩, rfl, h54, h58, rfl, rfl, fun h hh => ?_, fun k hk2 hb => ?_, fun k hk2 t ht hm => ?_⟩
  · rw [hu]; cases un <;> rfl
  · refine ⟨?_, Nat.mod_lt _ (Nat.two_pow_pos _)⟩
    rw [(h3 h hh).2.1, h1, look_maskM hH (by omega)]
    unfold lkO
    rw [Nat.mod_mod_of_dvd _ (show 2 ^ H ∣ 256 from Nat.pow_dvd_pow 2 (n := 8) hH)]
  · have hne : cs k ≠ [] := fun z => by simp [z] at hb
    exact ⟨(hcs k hk2).1 hne, ((h3 k hk2).2.2 hne).1⟩
  · unfold lkO
    rw [Nat.testBit_mod_two_pow, lkm_mem _ _ t (by omega) hm]
    simp [ht]
theorem ltl_cg {A B : Nat → Int32} {x v : Int32} : ∀ (c k : Nat), (∀ j, 2 * k ≤ j → j < 2 * (k + c) → A j = B j) → ltl A x v c k = ltl B x v c k
  | 0, _, _ => rfl
  | c + 1, k, h => by
    unfold ltl
    rw [h (2 * k) (by omega) (by omega), h (2 * k + 1) (by omega) (by omega), ltl_cg c (k + 1) (fun j a b => h j (by omega) (by omega))]
theorem tv_cg {so de so' de' : Nat → Int32} {mo : Int32} {H : Nat} {cs : Nat → List Nat} (N : Nat → Nat) {k : Nat} (h1 : so k = so' k) (h2 : de k = de' k) : tvN so de mo H cs N k = tvN so' de' mo H cs N k := by
  unfold tvN
  rw [show opN so de mo k H N = opN so' de' mo k H N from by funext c; unfold opN; rw [h1, h2]]
theorem TN_cg {un : Bool} {Lt Lt' so de so' de' : Nat → Int32} {L : Nat} {r w mo : Int32} {H : Nat} {lk : Nat → Nat} {cs : Nat → List Nat} (hL : ∀ j, j < 2 * L → Lt j = Lt' j) (h1 : ∀ k, k < H → so k = so' k ∧ de k = de' k) : TN un Lt L r w lk (tvN so de mo H cs) H = TN un Lt' L r w lk (tvN so' de' mo H cs) H := by
  funext N h
  unfold TN
  rw [rlR_cg H 0 (fun j _ hj => tv_cg N (h1 j (by omega)).1 (h1 j (by omega)).2), ltl_cg L 0 (fun j _ hj => hL j (by omega))]
theorem zR_eq {H M : Nat} {un : Bool} {cs : Nat → List Nat} {e : Lf} {r w : Int32} {E : Nat} (hH : H ≤ 8) (hM : M ≤ 20) : skTop (zT H M un cs e r w) noB H M E = some (zR H M un cs e r w E) := by
  obtain ⟨res, h⟩ := skTop_ex (zT H M un cs e r w) (M := M) E hH hM
  unfold zR
  rw [h]
  rfl
theorem zT_c {I : mI} {f H M : Nat} {un : Bool} {cs : Nat → List Nat} {e : Lf} {r w : Int32} (hL : cL I f H e) : TN un (LtO e.2.2.2.2) e.2.2.2.2.length r w (lkO cs H) (tvN (I (f + 1)) (I (f + 2)) (nI M) H cs) H = zT H M un cs e r w := by
  unfold zT tvO
  exact TN_cg (fun _ _ => rfl) (fun k hk => ⟨(hL.1 k hk).1, (hL.1 k hk).2⟩)
theorem LtR {I : mI} {m H : Nat} {e : Lf} (hL : rL I m H e) : ∀ j, j < 2 * e.2.2.2.2.length → I (m + 24) j = LtO e.2.2.2.2 j := by
  intro j hj
  have h := hL.2.2.2 (j / 2) (by omega)
  unfold LtO
  by_cases q : j % 2 = 0
  · rw [if_pos q, ← h.1, show 2 * (j / 2) = j by omega]
  · rw [if_neg q, ← h.2, show 2 * (j / 2) + 1 = j by omega]
theorem zT_r {I : mI} {m H M : Nat} {un : Bool} {cs : Nat → List Nat} {e : Lf} {r w : Int32} (hL : rL I m H e) : TN un (I (m + 24)) e.2.2.2.2.length r w (lkO cs H) (tvN (I (m + 1)) (I (m + 2)) (nI M) H cs) H = zT H M un cs e r w := by
  unfold zT tvO
  exact TN_cg (LtR hL) (fun k hk => ⟨(hL.1 k hk).1, (hL.1 k hk).2.1⟩)
theorem spB_lt {H : Nat} {cs : Nat → List Nat} {e : Lf} (hH : H ≤ 8) : spB H cs e < 256 := Nat.lt_of_lt_of_le (alB_lt _ H) (pw8 hH)
theorem sp_c {I : mI} {b f H M : Nat} {un : Bool} {cs : Nat → List Nat} {tx : Nat → List Int32} {e : Lf} (hS : cS I b H M un cs tx) (hL : cL I f H e) : I b 3 &&& (I f 2 ^^^ (-1)) = nI (spB H cs e) := by
  refine b_ext (fun i hi => ?_)
  rw [b_and, hS.1.2.1 i hi, bt_nI _ hi]
  unfold spB
  rw [alB_bit]
  rw [show bt (I f 2 ^^^ (-1)) i = !(bt (I f 2) i) from by rw [b_xor, b_m1 i hi, Bool.xor_true], hL.2.1 i hi]
  cases decide (i < H) <;> simp
theorem sp_r {I : mI} {m H M : Nat} {un : Bool} {cs : Nat → List Nat} {tx : Nat → List Int32} {e : Lf} (hH : H ≤ 8) (hS : rS I m H M un cs tx) (hL : rL I m H e) : spR (I (m + 3)) (I (m + 4)) H = nI (spB H cs e) := by
  have key : ∀ i, i ≤ H → spR (I (m + 3)) (I (m + 4)) i = nI (spB i cs e) := by
    intro i
    induction i with
    | zero => intro _; rfl
    | succ i ih =>
      intro hi
      have h4 := (hL.1 i (by omega)).2.2
      have h3 := (hS.2.2 i (by omega)).1
      show spR (I (m + 3)) (I (m + 4)) i ||| _ = nI (if (!(cs i).isEmpty && !e.2.2.1 i) = true then spB i cs e ||| 2 ^ i else spB i cs e)
      rw [ih (by omega), h3, h4]
      have h0 : nI (spB i cs e) ||| nI 0 = nI (spB i cs e) := b_ext (fun j hj => by rw [b_or]; rw [show bt (nI 0) j = false from by rw [bt_nI 0 hj, Nat.zero_testBit]]; rw [Bool.or_false])
      by_cases q : cs i = []
      · rw [if_pos q, if_neg (show ¬ nI 0 = nI 1 by decide), if_neg (by rw [q]; simp)]
        exact h0
      · have hne : (cs i).isEmpty = false := by cases hx : cs i; exact absurd hx q; rfl
        rw [if_neg q]
        cases hm : e.2.2.1 i
        · rw [if_pos rfl, if_pos (show bz false = 0 by decide), if_pos (by rw [hne]; rfl), or_sh _ (spB_lt (by omega)) i (by omega)]
        · rw [if_pos rfl, if_neg (show ¬ bz true = 0 by decide), if_neg (by simp)]
          exact h0
  exact key H (Nat.le_refl H)
theorem cL.cg {I I' : mI} {f H : Nat} {e : Lf} (hf : ∀ a, f ≤ a → a ≤ f + 5 → I' a = I a) (h : cL I f H e) : cL I' f H e := by
  unfold cL at *
  rw [hf f (by omega) (by omega), hf (f + 1) (by omega) (by omega), hf (f + 2) (by omega) (by omega), hf (f + 3) (by omega) (by omega), hf (f + 4) (by omega) (by omega), hf (f + 5) (by omega) (by omega)]
  exact h
theorem cS.cg {I I' : mI} {b H M : Nat} {un : Bool} {cs : Nat → List Nat} {tx : Nat → List Int32} (hb : ∀ a, b ≤ a → a ≤ b + 7 → I' a = I a) (h : cS I b H M un cs tx) : cS I' b H M un cs tx := by
  unfold cS stM at *
  rw [hb b (by omega) (by omega), hb (b + 1) (by omega) (by omega), hb (b + 2) (by omega) (by omega), hb (b + 3) (by omega) (by omega), hb (b + 4) (by omega) (by omega), hb (b + 5) (by omega) (by omega), hb (b + 6) (by omega) (by omega), hb (b + 7) (by omega) (by omega)]
  exact h
theorem cT.cg {I I' : mI} {o t : Nat} {T : Nat → Nat} {fp : Int32} {rr : Nat → Int32} (h1 : I' o 1 = I o 1) (h2 : I' o 2 = I o 2) (h3 : I' (o + 1) = I (o + 1)) (h4 : I' (o + 2) = I (o + 2)) (h : cT I o t T fp rr) : cT I' o t T fp rr := by
  unfold cT at *
  rw [h1, h2, h3, h4]
  exact h
theorem cI.cg {I I' : mI} {o H M : Nat} {im : Option Lf} (h1 : I' o 9 = I o 9) (hf : ∀ a, o + 35 ≤ a → a ≤ o + 40 → I' a = I a) (h : cI I o H M im) : cI I' o H M im := by
  cases im with
  | none => exact h1.trans h
  | some e => exact ⟨h1.trans h.1, h.2.1.cg (fun a x y => hf a x (by omega)), h.2.2⟩
theorem cW.cg {I I' : mI} {o : Nat} {wk : Option (List Nat)} (h1 : I' (o + 58) = I (o + 58)) (h2 : I' (o + 60) = I (o + 60)) (h : cW I o wk) : cW I' o wk := by
  cases wk with
  | none => exact (congrFun h1 6).trans h
  | some w => exact ⟨(congrFun h1 6).trans h.1, (congrFun h1 5).trans h.2.1, h.2.2.1, fun j hj => (congrFun h2 j).trans (h.2.2.2 j hj)⟩
theorem cQ9.cg {I I' : mI} {J J' : mJ} {o H M : Nat} {un : Bool} {cs : Nat → List Nat} {e : Lf} (h0 : I' o 11 = I o 11) (h1 : I' (o + 41) = I (o + 41)) (h2 : I' (o + 46) = I (o + 46)) (h3 : J' (o + 45) = J (o + 45)) (h : cQ9 I J o H M un cs e) : cQ9 I' J' o H M un cs e := by
  unfold cQ9 at *
  rw [h0, h1, h2, h3]
  exact h
theorem cP9.cg {I I' : mI} {o H M : Nat} {un : Bool} {cs : Nat → List Nat} {tx : Nat → List Int32} {e : Lf} (h0 : I' o 18 = I o 18) (h1 : I' (o + 67) = I (o + 67)) (h2 : I' (o + 68) = I (o + 68)) (h : cP9 I o H M un cs tx e) : cP9 I' o H M un cs tx e := by
  unfold cP9 at *
  rw [h0, h1, h2]
  exact h
theorem kX.S {kd : mK} {P : mP} {o b s f l : Nat} (h : kX kd P o b s f l) : kS kd P b := by
  obtain ⟨-, ⟨h1, h2⟩, -, -, -, -, hb, -, -⟩ := h
  rcases hb with ⟨rfl, -⟩ | ⟨rfl, -⟩
  · exact h1
  · exact h2
theorem kX.S2 {kd : mK} {P : mP} {o b s f l : Nat} (h : kX kd P o b s f l) : kS kd P s := by
  obtain ⟨-, ⟨h1, h2⟩, -, -, -, -, hb, -, -⟩ := h
  rcases hb with ⟨-, rfl⟩ | ⟨-, rfl⟩
  · exact h2
  · exact h1
theorem kX.L {kd : mK} {P : mP} {o b s f l : Nat} (h : kX kd P o b s f l) : kL kd P f := by
  obtain ⟨-, -, ⟨h1, h2, -⟩, -, -, -, -, hb, -⟩ := h
  rcases hb with ⟨rfl, -⟩ | ⟨rfl, -⟩
  · exact h1
  · exact h2
theorem kX.L2 {kd : mK} {P : mP} {o b s f l : Nat} (h : kX kd P o b s f l) : kL kd P l := by
  obtain ⟨-, -, ⟨h1, h2, -⟩, -, -, -, -, hb, -⟩ := h
  rcases hb with ⟨-, rfl⟩ | ⟨-, rfl⟩
  · exact h2
  · exact h1
/-- where the streets and lives lie -/
theorem kX.at {kd : mK} {P : mP} {o b s f l : Nat} (h : kX kd P o b s f l) : ((b = o + 3 ∧ s = o + 13) ∨ (b = o + 13 ∧ s = o + 3)) ∧ ((f = o + 23 ∧ l = o + 29) ∨ (f = o + 29 ∧ l = o + 23)) ∧ o < 990000 := ⟨h.2.2.2.2.2.2.1, h.2.2.2.2.2.2.2.1, h.2.2.2.2.2.2.2.2⟩
theorem rLx.cg {So De Mu Ac Le So' De' Mu' Ac' Le' : Nat → Int32} {na nl na' nl' : Int32} {H : Nat} {e : Lf} (h1 : So' = So) (h2 : De' = De) (h3 : Mu' = Mu) (h4 : Ac' = Ac) (h5 : Le' = Le) (h6 : na' = na) (h7 : nl' = nl) (h : rLx So De Mu Ac Le na nl H e) : rLx So' De' Mu' Ac' Le' na' nl' H e := by
  subst h1 h2 h3 h4 h5 h6 h7
  exact h
theorem rS.cg {I I' : mI} {m H M : Nat} {un : Bool} {cs : Nat → List Nat} {tx : Nat → List Int32} (h0 : ∀ j, j = 1 ∨ j = 2 ∨ j = 3 ∨ j = 54 ∨ j = 58 → I' m j = I m j) (hb : ∀ a, a = m + 3 ∨ a = m + 5 ∨ a = m + 6 ∨ a = m + 7 ∨ a = m + 8 ∨ a = m + 9 ∨ a = m + 10 → I' a = I a) (h : rS I m H M un cs tx) : rS I' m H M un cs tx := by
  unfold rS at *
  rw [h0 1 (by omega), h0 2 (by omega), h0 3 (by omega), h0 54 (by omega), h0 58 (by omega), hb (m + 3) (by omega), hb (m + 5) (by omega), hb (m + 6) (by omega), hb (m + 7) (by omega), hb (m + 8) (by omega), hb (m + 9) (by omega), hb (m + 10) (by omega)]
  exact h
theorem rT.cg {I I' : mI} {m t : Nat} {T : Nat → Nat} {fp : Int32} {rr : Nat → Int32} (h1 : I' m 15 = I m 15) (h2 : I' m 17 = I m 17) (h3 : I' (m + 11) = I (m + 11)) (h4 : I' (m + 12) = I (m + 12)) (h : rT I m t T fp rr) : rT I' m t T fp rr := by
  unfold rT at *
  rw [h1, h2, h3, h4]
  exact h
theorem rI9.cg {I I' : mI} {m H : Nat} {im : Option Lf} (h0 : I' m 90 = I m 90) (h1 : I' m 91 = I m 91) (h2 : I' m 92 = I m 92) (hb : ∀ a, m + 51 ≤ a → a ≤ m + 55 → I' a = I a) (h : rI9 I m H im) : rI9 I' m H im := by
  cases im with
  | none => exact h0.trans h
  | some e => exact ⟨h0.trans h.1, rLx.cg (hb _ (by omega) (by omega)) (hb _ (by omega) (by omega)) (hb _ (by omega) (by omega)) (hb _ (by omega) (by omega)) (hb _ (by omega) (by omega)) h1 h2 h.2⟩
theorem rW.cg {I I' : mI} {m : Nat} {wk : Option (List Nat)} (h0 : I' m 74 = I m 74) (h1 : I' (m + 37) = I (m + 37)) (h : rW I m wk) : rW I' m wk := by
  cases wk with
  | none => exact h0.trans h
  | some w => exact ⟨h0.trans h.1, fun j hj => (congrFun h1 j).trans (h.2 j hj)⟩
theorem CR.fr {o b s f l n n' t : Nat} {kd kd' : mK} {I I' : mI} {J J' : mJ} {P P' : mP} {T : Nat → Nat} {fp : Int32} {rr : Nat → Int32} {H M : Nat} {un : Bool} {cs : Nat → List Nat} {tx : Nat → List Int32} {e : Lf} {im : Option Lf} {wk : Option (List Nat)} (hn : n ≤ n') (hk : ∀ a, a < n → (o + 68 < a ∨ a < o) → kd' a = kd a) (hf : ∀ a, o ≤ a → a ≤ o + 68 → kd' a = kd a ∧ I' a = I a ∧ J' a = J a ∧ P' a = P a) (h : CR o b s f l n kd I J P t T fp rr H M un cs tx e im wk) : CR o b s f l n' kd' I' J' P' t T fp rr H M un cs tx e im wk := by
  obtain ⟨hX, hs, h1, h2, h3, h4, h5, h6, h7⟩ := h
  have hat := hX.at
  refine ⟨?_, ?_, h1.cg (by rw [(hf o (by omega) (by omega)).2.1]) (by rw [(hf o (by omega) (by omega)).2.1]) (hf _ (by omega) (by omega)).2.1 (hf _ (by omega) (by omega)).2.1, h2.cg (fun a x y => (hf a (by omega) (by omega)).2.1), h3.cg (fun a x y => (hf a (by omega) (by omega)).2.1), h4.cg (by rw [(hf o (by omega) (by omega)).2.1]) (fun a x y => (hf a (by omega) (by omega)).2.1), h5.cg (hf _ (by omega) (by omega)).2.1 (hf _ (by omega) (by omega)).2.1, h6.cg (by rw [(hf o (by omega) (by omega)).2.1]) (hf _ (by omega) (by omega)).2.1 (hf _ (by omega) (by omega)).2.1 (hf _ (by omega) (by omega)).2.2.1, h7.cg (by rw [(hf o (by omega) (by omega)).2.1]) (hf _ (by omega) (by omega)).2.1 (hf _ (by omega) (by omega)).2.1⟩
  · have hk9 : ∀ j, j ≤ 68 → kd' (o + j) = kd (o + j) := fun j hj => (hf _ (by omega) (by omega)).1
    have hp9 : ∀ j, j ≤ 68 → P' (o + j) = P (o + j) := fun j hj => (hf _ (by omega) (by omega)).2.2.2
    have hk0 := hk9 0 (by omega)
    have hp0 := hp9 0 (by omega)
    simp only [Nat.add_zero] at hk0 hp0
    unfold kX kS kL kQ kA kG kW kRd kD kPg kQ at *
    simp only [Nat.add_assoc, Nat.reduceAdd] at hX ⊢
    simpa only [hk0, hp0, hk9, hp9, Nat.reduceLeDiff] using hX
  · rcases hs with hs | ⟨z, q1, q2, q3, q4⟩
    · left; rw [(hf (o + 56) (by omega) (by omega)).2.2.2]; exact hs
    · right; exact ⟨z, by rw [(hf (o + 56) (by omega) (by omega)).2.2.2]; exact q1, by rw [hk z q4 (Or.inl (by omega))]; exact q2, q3, by omega⟩
theorem RR.fr {m t : Nat} {kd kd' : mK} {I I' : mI} {P P' : mP} {T : Nat → Nat} {fp : Int32} {rr : Nat → Int32} {H M : Nat} {un : Bool} {cs : Nat → List Nat} {tx : Nat → List Int32} {e : Lf} {im : Option Lf} {wk : Option (List Nat)} (hf : ∀ a, m ≤ a → a ≤ m + 55 → kd' a = kd a ∧ I' a = I a ∧ P' a = P a) (h : RR m kd I P t T fp rr H M un cs tx e im wk) : RR m kd' I' P' t T fp rr H M un cs tx e im wk := by
  obtain ⟨hM, h1, h2, h3, h4, h5⟩ := h
  have hm := (hf m (by omega) (by omega)).2.1
  refine ⟨⟨(hf m (by omega) (by omega)).1.trans hM.1, fun q hq => ?_⟩, h1.cg (by rw [hm]) (by rw [hm]) (hf _ (by omega) (by omega)).2.1 (hf _ (by omega) (by omega)).2.1, h2.cg (fun j _ => by rw [hm]) (fun a x => (hf a (by omega) (by omega)).2.1), rLx.cg (hf _ (by omega) (by omega)).2.1 (hf _ (by omega) (by omega)).2.1 (hf _ (by omega) (by omega)).2.1 (hf _ (by omega) (by omega)).2.1 (hf _ (by omega) (by omega)).2.1 (by rw [hm]) (by rw [hm]) h3, h4.cg (by rw [hm]) (by rw [hm]) (by rw [hm]) (fun a x y => (hf a (by omega) (by omega)).2.1), h5.cg (by rw [hm]) (hf _ (by omega) (by omega)).2.1⟩
  have hle : q.2.1 ≤ 55 := by revert q; decide
  rw [(hf m (by omega) (by omega)).2.2, (hf (m + q.2.1) (by omega) (by omega)).1]
  exact hM.2 q hq

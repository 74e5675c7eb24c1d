/-! SOW: what it leaves -/
theorem code_mo (q : SS) (c : Int32) : (SS.code q c).2.1 = q.2.1 ∧ (SS.code q c).2.2.1 = q.2.2.1 := by
  obtain ⟨ho, mo, un, ri, cd, tl, lo, co, cf, ct, tx, tf, tt⟩ := q
  simp only [SS.code]
  split <;> exact ⟨rfl, rfl⟩
theorem cds_mo : ∀ (cs : List Nat) (q : SS), (cds cs q).2.1 = q.2.1 ∧ (cds cs q).2.2.1 = q.2.2.1
  | [], _ => ⟨rfl, rfl⟩
  | c :: t, q => by
    have h1 := cds_mo t (SS.code q (nI c))
    have h2 := code_mo q (nI c)
    exact ⟨h1.1.trans h2.1, h1.2.trans h2.2⟩
theorem house_mo (q : SS) : (SS.house q).2.1 = q.2.1 ∧ (SS.house q).2.2.1 = q.2.2.1 := by
  obtain ⟨ho, mo, un, ri, cd, tl, lo, co, cf, ct, tx, tf, tt⟩ := q
  simp only [SS.house]
  split <;> exact ⟨rfl, rfl⟩
theorem begin_mo (q : SS) : (SS.begin q).2.1 = q.2.1 ∧ (SS.begin q).2.2.1 = q.2.2.1 := by
  obtain ⟨ho, mo, un, ri, cd, tl, lo, co, cf, ct, tx, tf, tt⟩ := q
  simp only [SS.begin]
  split <;> exact ⟨rfl, rfl⟩
theorem sdQ_mo (x : Int32) (h M : Nat) (q : SS) : (sdQ x h M q).2.1 = q.2.1 ∧ (sdQ x h M q).2.2.1 = q.2.2.1 := by
  unfold sdQ
  split
  · exact house_mo q
  · have h1 := cds_mo (sdC x h M) (SS.begin (SS.house q))
    have h2 := begin_mo (SS.house q)
    have h3 := house_mo q
    exact ⟨h1.1.trans (h2.1.trans h3.1), h1.2.trans (h2.2.trans h3.2)⟩
theorem swQ_mo (M k : Nat) : ∀ (h : Nat) (x : Int32) (q : SS), (swQ M k h x q).2.1 = q.2.1 ∧ (swQ M k h x q).2.2.1 = q.2.2.1 := by
  induction k with
  | zero => intro h x q; unfold swQ; exact ⟨rfl, rfl⟩
  | succ k ih =>
    intro h x q
    unfold swQ
    have h1 := ih (h + 1) (sdH x h M).2 (sdQ x h M q)
    have h2 := sdQ_mo x h M q
    exact ⟨h1.1.trans h2.1, h1.2.trans h2.2⟩
/-- a street in memory by its houses' codes -/
def stM (cs : Nat → List Nat) (H : Nat) (I : mI) (s : Nat) : Prop := I s 0 = nI H ∧ (∀ i, i < 32 → bt (I s 3) i = (decide (i < H) && !(cs i).isEmpty)) ∧ ∀ h, h < H → I (s + 1) h = nI (lkm 0 (cs h)) ∧ I (s + 3) h = nI (ofs cs h) ∧ I (s + 4) h = nI (ofs cs h + (cs h).length) ∧ ∀ j, j < (cs h).length → I (s + 2) (ofs cs h + j) = nI ((cs h).getD j 0)
def swG (n : Nat) (kd : mK) (I : mI) (J : mJ) (P : mP) (o s l M H : Nat) (u x : Int32) (n' : Nat) (kd' : mK) (I' : mI) (J' : mJ) (P' : mP) : Prop := n' = n ∧ kd' = kd ∧ J' = J ∧ P' = rdQ P (o + 61) (o + 68) s l ∧ stM (sdCs M x) H I' s ∧ I' s 1 = nI M ∧ I' s 2 = (if u = 0 then nI 0 else nI 1) ∧ (I' l 2 = nI 0 ∧ I' l 4 = nI 0 ∧ I' l 7 = nI 0 ∧ ∀ j, j < 8 → I' (l + 1) j = nI 0 ∧ I' (l + 2) j = nI 0) ∧ (∀ a, a ≠ o → (a < o + 61 ∨ o + 68 < a) → (a < s ∨ s + 7 < a) → (a < l ∨ l + 2 < a) → I' a = I a) ∧ I' o = va_up (I o) 18 (nI 0)
theorem stM_of {cs : Nat → List Nat} {H s : Nat} {q : SS} {I : mI} (h : stF cs H q) : stM cs H (sI s q I) s := by
  obtain ⟨ho, mo, un, ri, cd, tl, lo, co, cf, ct, tx, tf, tt⟩ := q
  obtain ⟨h1, h2, h3, h4⟩ := h
  dsimp only at h1 h2 h3 h4
  refine ⟨by rw [sI_ho, h1], fun i hi => by rw [sI_ri]; exact h3 i hi, fun h hh => ?_⟩
  rw [sI_alo, sI_acf, sI_act, sI_aco]
  exact h4 h hh
theorem pgI_at {p : Nat} {bs : List Int32} {I : mI} : atX (pgI p bs I (p + 1)) 0 bs := fun j hj => by
  rw [pgI_b, Nat.zero_add]
  simp [List.getD, List.getElem?_eq_getElem hj]
theorem pgI_at2 {p c : Nat} {bs : List Int32} {I : mI} (hc : c = p + 1) : atX (pgI p bs I c) 0 bs := by subst hc; exact pgI_at
theorem hdQ_p (M : Nat) (u : Int32) (q : SS) : (hdQ M u q).1 = q.1 ∧ (hdQ M u q).2.1 = nI M ∧ (hdQ M u q).2.2.1 = (if u = 0 then q.2.2.1 else nI 1) ∧ (hdQ M u q).2.2.2.1 = q.2.2.2.1 ∧ (hdQ M u q).2.2.2.2.1 = q.2.2.2.2.1 := by
  obtain ⟨ho, mo, un, ri, cd, tl, lo, co, cf, ct, tx, tf, tt⟩ := q
  unfold hdQ
  split <;> exact ⟨rfl, rfl, rfl, rfl, rfl⟩
set_option maxHeartbeats 4000000 in
set_option maxRecDepth 100000 in
theorem c_sow (o b s f l M H : Nat) (x u : Int32) {n : Nat} {kd : mK} {I : mI} {J : mJ} {P : mP} (hX : kX kd P o b s f l) (hM : I b 1 = nI M) (hM2 : 2 ≤ M) (hM20 : M ≤ 20) (hH : H ≤ 8) (hu : I b 2 = u) : Ct yX9_sow cX9_sow 4 none 62 0 0 [.ref o, .int x, .int (nI H)] n kd I J P (fun z n' kd' I' J' P' => z = .inl none ∧ swG n kd I J P o s l M H u x n' kd' I' J' P') := by
  refine Ct.mono (c_X9_sow o b s f l M H x u hX hM (by omega) hM20 hH hu) ?_
  rintro z n' kd' I' J' P' ⟨h0, h1, h2, h3, h4, I0, h5, h6, h7⟩
  obtain ⟨⟨c0, c1, c2⟩, ⟨s3, s13⟩, ⟨l23, l29, l35⟩, ⟨q41, a47, g56, w58, r61, d66, p67⟩, ⟨e0, e3, e8, e10, e12, e13, e14, e15, e16, e17⟩, ⟨e4, e5, e6, e7⟩, hbs, hfl, ho⟩ := hX
  have hby := byF_sw M (show 0 < M by omega) hM20 H 0 x (by omega)
  have hhd := hd_len M u
  have hlen : (swT M u H x).length ≤ 500 := by unfold swT; rw [List.length_append]; omega
  generalize hIp : pgI (o + 67) (swT M u H x) (dI (o + 66) (swS M H 0 x) (va_up I o (va_up (I o) 18 (nI 0)))) = Ip at h5 h6 h7
  have hat : atX (Ip (o + 68)) 0 (swT M u H x) := by rw [← hIp]; exact pgI_at2 (by omega)
  have hIa : ∀ a, a ≠ o + 66 → a ≠ o + 67 → a ≠ o + 68 → Ip a = va_up I o (va_up (I o) 18 (nI 0)) a := fun a z1 z2 z3 => by rw [← hIp, pgI_ne _ _ z2 (by omega), dI_ne _ _ z1]
  obtain ⟨a, q', er, cr⟩ := sw_read (X := Ip (o + 68)) (R := rd0 Ip s l) (M := M) (H := H) (u := u) (x := x) (q := SS.clear (ssOf Ip s)) nI_0 nI_0 rfl nI_0 hM2 hM20 hH hat hlen
  have hR : rdR Ip s l (o + 68) (swT M u H x).length = adv (rMt (nI 1) (rd0 Ip s l)) a q' := er
  rw [hR] at h5
  have hst : stF (sdCs M x) H q' := by
    have hp := hdQ_p M u (SS.clear (ssOf Ip s))
    have hs := sw_facts (M := M) (x := x) (by omega) hM20 H 0 x (hdQ M u (SS.clear (ssOf Ip s))) (by rw [sdX]) (by omega) (stF_0 (by rw [hp.1]; rfl) (by rw [hp.2.2.2.2]; rfl) (by rw [hp.2.2.2.1]; rfl))
    rw [Nat.zero_add] at hs
    exact stF_core cr hs
  have hmo := core_eq cr
  have hsm := swQ_mo M H 0 x (hdQ M u (SS.clear (ssOf Ip s)))
  have hp := hdQ_p M u (SS.clear (ssOf Ip s))
  refine ⟨h0, h1, h2, h3, h4, ?_⟩
  have hI' : I' = sI s q' (lI l (z8 (Ip (l + 1))) (z8 (Ip (l + 2))) (hI (o + 61) (rk (tkT (swT M u H x).length (Ip (o + 68))) (adv (rMt (nI 1) (rd0 Ip s l)) a q')) (adv (rMt (nI 1) (rd0 Ip s l)) a q') I0)) := h5
  rw [hI']
  have ol : ∀ c, (c < s ∨ s + 7 < c) → c ≠ l + 1 → c ≠ l + 2 → c ≠ o + 61 → sI s q' (lI l (z8 (Ip (l + 1))) (z8 (Ip (l + 2))) (hI (o + 61) (rk (tkT (swT M u H x).length (Ip (o + 68))) (adv (rMt (nI 1) (rd0 Ip s l)) a q')) (adv (rMt (nI 1) (rd0 Ip s l)) a q') I0)) c = I0 c := fun c z1 z2 z3 z4 => by
    rw [sI_ne _ _ z1, lI_ne _ _ _ z2 z3]
    simp [hI, z4]
  refine ⟨stM_of hst, ?_, ?_, ?_, ?_, ?_⟩
  · have : ∀ (q : SS) (W : mI), sI s q W s 1 = q.2.1 := fun q W => by
      obtain ⟨ho, mo, un, ri, cd, tl, lo, co, cf, ct, tx, tf, tt⟩ := q
      exact sI_mo s W
    rw [this, hmo.2.1, hsm.1, hp.2.1]
  · have : ∀ (q : SS) (W : mI), sI s q W s 2 = q.2.2.1 := fun q W => by
      obtain ⟨ho, mo, un, ri, cd, tl, lo, co, cf, ct, tx, tf, tt⟩ := q
      exact sI_un s W
    rw [this, hmo.2.2.1, hsm.2, hp.2.2.1]
    rfl
  · rw [ol l (by omega) (by omega) (by omega) (by omega), h7]
    refine ⟨rfl, rfl, rfl, fun j hj => ?_⟩
    rw [sI_ne _ _ (by omega), sI_ne _ _ (by omega)]
    simp [lI, z8, hj]
  · intro c z0 z1 z2 z3
    rw [ol c z2 (by omega) (by omega) (by omega), h6 c (by omega), hIa c (by omega) (by omega) (by omega), am_up_n _ _ z0]
  · rw [ol o (by omega) (by omega) (by omega) (by omega), h6 o (by omega), hIa o (by omega) (by omega) (by omega), am_up_s]

theorem kX_rdQ {kd : mK} {P : mP} {o b s f l x y z : Nat} (h : kX kd P o b s f l) : kX kd (rdQ P (o + 61) x y z) o b s f l := by
  obtain ⟨⟨c0, c1, c2⟩, ⟨s3, s13⟩, ⟨l23, l29, l35⟩, ⟨q41, a47, g56, w58, r61, d66, p67⟩, hP, hP2, hbs, hfl, ho⟩ := h
  have ne : ∀ a, a ≠ o + 61 → rdQ P (o + 61) x y z a = P a := fun a ha => rdQ_ne ha
  refine ⟨⟨c0, c1, c2⟩, ⟨s3.congr (ne _ (by omega)), s13.congr (ne _ (by omega))⟩, ⟨l23.congr (ne _ (by omega)), l29.congr (ne _ (by omega)), l35.congr (ne _ (by omega))⟩, ⟨?_, ?_, ?_, ?_, ?_, ?_, ?_⟩, by rw [ne o (by omega)]; exact hP, by rw [ne o (by omega)]; exact hP2, hbs, hfl, ho⟩
  · unfold kQ at q41 ⊢; rw [ne _ (by omega)]; exact q41
  · unfold kA kQ at a47 ⊢; rw [ne (o + 47) (by omega), ne (o + 47 + 1) (by omega)]; exact a47
  · unfold kG at g56 ⊢; rw [ne _ (by omega)]; exact g56
  · unfold kW at w58 ⊢; rw [ne _ (by omega)]; exact w58
  · obtain ⟨k0, k2, k3, k4, x2, x3, x4⟩ := r61
    exact ⟨k0, k2, k3, k4, by rw [rdQ_r]; exact x2, by rw [rdQ_r]; exact x3, by rw [rdQ_r]; exact x4⟩
  · exact d66
  · unfold kPg at p67 ⊢; rw [ne _ (by omega)]; exact p67

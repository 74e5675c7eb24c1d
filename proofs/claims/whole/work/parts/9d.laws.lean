/-! THE LAWS THAT ARE TRIED: what both must find of a seeded street -/
def riB (cs : Nat → List Nat) (H : Nat) : Nat := alB (fun h => !(cs h).isEmpty) H
theorem riB_lt {cs : Nat → List Nat} {H : Nat} (h : H ≤ 8) : riB cs H < 256 := Nat.lt_of_lt_of_le (alB_lt _ H) (pw8 h)
theorem st_riB {cs : Nat → List Nat} {H s : Nat} {I : mI} (h : stM cs H I s) : I s 3 = nI (riB cs H) := b_ext (fun i hi => by
  rw [h.2.1 i hi, bt_nI _ hi]
  unfold riB
  rw [alB_bit])
theorem rs_riB {cs : Nat → List Nat} {H m : Nat} {I : mI} (hH : H ≤ 8) (h : rsM cs H I m) : spR (I (m + 3)) (I (m + 4)) H = nI (riB cs H) := by
  have key : ∀ i, i ≤ H → spR (I (m + 3)) (I (m + 4)) i = nI (riB cs i) := by
    intro i
    induction i with
    | zero => intro _; rfl
    | succ i ih =>
      intro hi
      obtain ⟨-, -, h4, h3, -, -⟩ := h.2 i (by omega)
      show spR (I (m + 3)) (I (m + 4)) i ||| _ = nI (if (!(cs i).isEmpty) = true then riB cs i ||| 2 ^ i else riB cs i)
      rw [ih (by omega), h3, h4]
      by_cases e : cs i = []
      · rw [if_pos e, if_neg (by decide), if_neg (by rw [e]; decide)]
        exact b_ext (fun j hj => by rw [b_or]; rw [show bt (nI 0) j = false from by rw [bt_nI 0 hj, Nat.zero_testBit]]; rw [Bool.or_false])
      · rw [if_neg e, if_pos rfl, if_pos (by decide), if_pos (by cases hx : cs i; exact absurd hx e; rfl), or_sh _ (riB_lt (by omega)) i (by omega)]
  exact key H (Nat.le_refl H)
theorem cn_le (cs : Nat → List Nat) : ∀ H, cnR cs H ≤ H
  | 0 => Nat.le_refl 0
  | H + 1 => by have := cn_le cs H; unfold cnR; split <;> omega
theorem cn_all (cs : Nat → List Nat) : ∀ H, cnR cs H = H ↔ ∀ h, h < H → cs h ≠ []
  | 0 => ⟨fun _ h hh => absurd hh (by omega), fun _ => rfl⟩
  | H + 1 => by
    have hl := cn_le cs H
    have ih := cn_all cs H
    unfold cnR
    constructor
    · intro h x hx
      split at h
      · omega
      · rcases Nat.lt_or_ge x H with q | q
        · exact ih.mp (by omega) x q
        · rw [show x = H by omega]; assumption
    · intro h
      rw [if_neg (h H (by omega)), ih.mpr (fun x hx => h x (by omega))]
theorem cn_riB {cs : Nat → List Nat} {H : Nat} : riB cs H = 2 ^ H - 1 ↔ cnR cs H = H := by
  rw [cn_all]
  constructor
  · intro h x hx e
    have := congrArg (fun y => y.testBit x) h
    simp only [riB, alB_bit, Nat.testBit_two_pow_sub_one, e] at this
    simp [hx] at this
  · intro h
    refine tb_ext (fun k => ?_)
    unfold riB
    rw [alB_bit, Nat.testBit_two_pow_sub_one]
    by_cases q : k < H
    · have := h k q
      cases hx : cs k
      · exact absurd hx this
      · simp [q]
    · simp [q]
def so0 : Nat → Int32 := fun _ => nI 0
def TQ (un : Bool) (cs : Nat → List Nat) (M H : Nat) (r w : Int32) : (Nat → Nat) → Nat → Bool := TN un so0 0 r w (fun h => lkm 0 (cs h)) (tvN so0 so0 (nI M) H cs) H
theorem rlR_cg {r : Int32} {aw : Nat → Nat} {h : Nat} {tv tv' : Nat → Bool} : ∀ (c k : Nat), (∀ j, k ≤ j → j < k + c → tv j = tv' j) → rlR r aw h tv c k = rlR r aw h tv' c k
  | 0, _, _ => rfl
  | c + 1, k, hj => by
    unfold rlR
    rw [hj k (by omega) (by omega), rlR_cg c (k + 1) (fun j h1 h2 => hj j (by omega) (by omega))]
theorem tv_q {so de : Nat → Int32} {mo : Int32} {H : Nat} {cs : Nat → List Nat} (N : Nat → Nat) {k : Nat} (h : so k = nI 0 ∧ de k = nI 0) : tvN so de mo H cs N k = tvN so0 so0 mo H cs N k := by
  unfold tvN
  rw [show opN so de mo k H N = opN so0 so0 mo k H N from by funext c; unfold opN; rw [h.1, h.2]; rfl]
theorem TN_q {un : Bool} {Lt so de : Nat → Int32} {r w : Int32} {M H : Nat} {cs : Nat → List Nat} (hz : ∀ k, k < H → so k = nI 0 ∧ de k = nI 0) : TN un Lt 0 r w (fun h => lkm 0 (cs h)) (tvN so de (nI M) H cs) H = TQ un cs M H r w := by
  funext N h
  unfold TQ TN
  rw [rlR_cg H 0 (fun j _ hj => tv_q N (hz j (by omega)))]
  rfl
/-- what a search of a seeded street finds -/
def rsT (un : Bool) (cs : Nat → List Nat) (M H E : Nat) : Nat × List (Nat → Nat) × Bool := (skTop (TQ un cs M H (nI (riB cs H)) (nI 1)) noB H M E).getD (0, [], false)
theorem rsT_eq {un : Bool} {Lt so de : Nat → Int32} {r : Int32} {M H E : Nat} {cs : Nat → List Nat} (hH : H ≤ 8) (hM : M ≤ 20) (hr : r = nI (riB cs H)) (hz : ∀ k, k < H → so k = nI 0 ∧ de k = nI 0) : skTop (TN un Lt 0 r (nI 1) (fun h => lkm 0 (cs h)) (tvN so de (nI M) H cs) H) noB H M E = some (rsT un cs M H E) := by
  rw [TN_q hz, hr]
  obtain ⟨res, h⟩ := skTop_ex (TQ un cs M H (nI (riB cs H)) (nI 1)) (M := M) E hH hM
  unfold rsT
  rw [h]
  rfl
def RKq (un : Bool) (cs : Nat → List Nat) (M H : Nat) : Nat → Int32 := RK un so0 0 H M (fun h => lkm 0 (cs h)) (tvN so0 so0 (nI M) H cs)
theorem RK_q {un : Bool} {Lt so de : Nat → Int32} {M H : Nat} {cs : Nat → List Nat} (hz : ∀ k, k < H → so k = nI 0 ∧ de k = nI 0) : RK un Lt 0 H M (fun h => lkm 0 (cs h)) (tvN so de (nI M) H cs) = RKq un cs M H := by
  funext s
  unfold RKq RK resK
  rw [TN_q hz]
  rfl
def knV (un : Bool) (cs : Nat → List Nat) (M H : Nat) : Int32 := kn2 (RKq un cs M H) (riB cs H) 256 9 0
/-- whether a law is broken: 1, 0, or -2 where a search ends early -/
def lawB (law H M : Nat) (un : Bool) (cs : Nat → List Nat) : Int32 :=
  if law = 0 then (if cnR cs H = H then (if (rsT un cs M H 2).2.2 then -2 else if 1 < (rsT un cs M H 2).2.1.length then nI 1 else nI 0) else nI 0)
  else if law = 1 then (if fwB (rsT un cs M H 1001) = true then (if lookV H (rsT un cs M H 1001).2.1 < H then nI 0 else nI 1) else -2)
  else (if knV un cs M H = -2 then -2 else if knV un cs M H = -1 then nI 0 else if nI 2 < bcF (knV un cs M H) then nI 1 else nI 0)

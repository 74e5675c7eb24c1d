/-! THE CLAIM OUT OF THE LAW'S WALK -/
def lw_P (b : Addr) (xs : List Int32) (sz : Nat) (args : Array Value) (s : State) : Prop := args = #[.ref b] ∧ s.IntsAt b xs ∧ xs.length ≤ 3072 ∧ (Jvm.Cond.and given_1 narrow_1).before args s = true ∧ s.heap.size = sz
def lw_Q (_ : Array Value) (s : State) (o : Outcome) (t : State) : Prop := o = .returned (some (.int 1)) ∧ Framed s o t [] 601024 7293034
set_option maxHeartbeats 4000000 in
theorem lw_met (l : Launch) (hl : l.stackTraces = false) (b : Addr) (xs : List Int32) (sz : Nat) : vx_Met l x (Jvm.Cond.code x code maxLocals ret :: tables_1) room_1 (lw_P b xs sz) (fun _ _ o _ => o = .returned (some (.int 1))) (fun _ _ _ => False) 601024 7293034 (fun q => sz ≤ q) := by
  refine vx_ofW (cc := code) (maxL := maxLocals) (ret := ret) (by decide +kernel) rfl ?_
  intro p e s m args below meth c s₁ B hml hex hP
  obtain ⟨rfl, hx, hbd, hgv, rfl⟩ := hP
  obtain ⟨scr, harrAt, hlist, hof, hsmall⟩ := hx
  obtain ⟨hcb, hkn, -, -⟩ := State.arrayAt?_spec harrAt
  have hts0 : ∀ c ∈ (Jvm.Cond.code x code maxLocals ret :: tables_1), c.before #[Value.ref b] s = true := atoms_spec (ws := Jvm.Cond.code x code maxLocals ret :: tables_1) B.pre
  have hts : ∀ w ∈ lw_tbl, w.before #[Value.ref b] s = true := k2_hts_sels lw_privs (fun w hw => hts0 w (List.mem_cons_of_mem _ hw)) lw_privs_ok
  have hsz : scr.slots.size = xs.length := by rw [← Array.length_toList, hlist, List.length_map]
  have hval : ∀ j : Nat, j < xs.length → scr.slots[j]? = some (.int (xs.getD j 0)) := fun j hj => by
    rw [← Array.getElem?_toList, hlist]
    simp [hj]
  have hbl : b < s.heap.size := (Array.getElem?_eq_some_iff.mp hcb).1
  have hX : va_X b xs.length (fun j => xs.getD j 0) s s.heap := ⟨scr, hcb, hof, hkn, hsz, hval⟩
  obtain ⟨cA, ad, D, hK, hS, hN, hSt, had, h301, h310⟩ := am_start hts hX hbl hgv hbd
  have hen := lv_entry ([.ref b]) (n := 7) (Nat.le_of_ble_eq_true rfl)
  show W p l e room_1 s m #[Value.ref b] below meth c s.heap [] 0 0 _ (entryFrame m ([Value.ref b] : List Value).toArray 7)
  rw [lg_entry_eq]
  generalize (lg_sl ([.ref b]) ++ List.replicate (7 - (lg_sl ([.ref b])).length) Slot.unset).toArray = lsC at hen ⊢
  have hL : am_L ad lsC 7 [some (.ref 1000200), none, none, none, none, none, none] := ⟨hen.1, hen.2.1, fun i v hv => by
    match i, hv with
    | 0, hv =>
      cases hv
      show lsC[0]? = some (.val (.ref (ad 1000200)))
      rw [had]
      exact hen.2.2 (0, .ref b) List.mem_cons_self
    | 1, hv => cases hv
    | 2, hv => cases hv
    | 3, hv => cases hv
    | 4, hv => cases hv
    | 5, hv => cases hv
    | 6, hv => cases hv
    | k + 7, hv => simp at hv⟩
  exact law_all xs.length hbd (K := fun cA' => cA' = cA) (xs := fun j => xs.getD j 0) (fun cA' h => by subst h; exact ⟨h301, h310⟩) (fun _ => none) (fun _ _ => 0) (fun _ _ => 0) (fun _ _ => none) p l e room_1 s m #[Value.ref b] below meth c 601024 7293034 (fun q => s.heap.size ≤ q) D cA ad _ _ (fun q => s.heap.size ≤ q) s.heap [] 0 0 lsC
    ⟨B.exec, B.bytes, hml, B.returns, fun w hw => hts w (gw_tbl hw), findClass_of_methodNamed B.named, B.notSynchronized, (name_of_methodNamed B.named B.method).1, am_noX hex, hl, ⟨Nat.le_of_ble_eq_true rfl, Nat.le_of_ble_eq_true rfl, Nat.le_refl _, Nat.le_refl _⟩, hK, fun q h => h, hS, hN, rfl⟩
    ⟨fun k q h => by simp [am_w] at h, ⟨fun i j p q h => by simp [am_w] at h, fun k q h => by simp [am_w] at h⟩, va_S.rf⟩ ⟨fun a x h => (nomatch h), fun a k b h => (nomatch h), Nat.zero_le _⟩
    (fun v hv => by
      rcases List.mem_cons.mp hv with e | h
      · cases e; exact fun a e => by cases e; exact Or.inr (Nat.le_of_ble_eq_true rfl)
      · simp at h)
    (fun v h => nomatch h) hL (Nat.le_of_ble_eq_true rfl) (Nat.le_of_ble_eq_true rfl)
    ⟨⟨fun q h => h, hSt⟩, fun v n' kd' I' J' P' ad' H' locs' h1 _ _ _ _ _ t _ _ => by cases h1; rfl, fun E n' kd' I' J' P' ad' H' locs' h1 => nomatch h1⟩
theorem lw_walk (l : Launch) (hflags : l.flags = flags0) (b : Addr) (xs : List Int32) (sz : Nat) : MetFree l x (headSpec (Jvm.Cond.code x code maxLocals ret :: tables_1) room_1) (lw_P b xs sz) (fun _ _ _ _ _ => True) lw_Q := by
  have hl : l.stackTraces = false := by
    unfold Launch.stackTraces
    rw [hflags]
    decide +kernel
  refine MetFree.mono (lw_met l hl b xs sz) (fun _ _ h => h) (fun _ _ _ _ _ h => h) ?_
  intro a s o t hp hq
  rcases hq with ⟨rfl, L, ⟨h1, h2, h3⟩, hL⟩ | ⟨q, -, E, ce, L, hf, -⟩
  · refine ⟨rfl, h1, h2, ?_⟩
    have h3' : s.sameButNew ({ t with vm := s.vm } : State) ([] ++ L) 601024 7293034 := h3
    exact h3'.drop_fresh (fun z hz => by rw [hp.2.2.2.2]; exact hL z hz)
  · exact hf.elim
theorem lw_pre_spec {args : Array Value} {s : State} (h : (Jvm.Cond.and given_1 narrow_1).before args s = true) (hr : rest_1_c.before args s = true) : ∃ (b : Addr) (xs : List Int32), lw_P b xs s.heap.size args s := by
  have hs := flat_of_before _ h
  have hq := flat_of_before _ hr
  have hc : (Cond.count 1).before args s = true := hs _ (by decide +kernel)
  have harr : (Cond.arrayOf (.arg 0) .int).before args s = true := hs _ (by decide +kernel)
  have hle : (Cond.le (.length (.arg 0)) (.int 3072)).before args s = true := hs _ (by decide +kernel)
  have hlen : (Cond.isInt (.length (.arg 0))).before args s = true := hq _ (by decide +kernel)
  have hall : (Cond.all (.arg 0) (.isInt (.elem (.arg 0) (.index 0)))).before args s = true := hq _ (by decide +kernel)
  obtain ⟨b, xs, hb, hx⟩ := State.ints_of_pre rfl harr hlen hall
  have hsm : xs.length < 2 ^ 31 := hx.choose_spec.2.2.2
  have hev : (Term.length (.arg 0)).eval args s none [] s = some (.int xs.length.toInt32) := hx.length_eval hb
  have hv := Cond.le_ints hev (show (Term.int 3072).eval args s none [] s = some (.int 3072) from rfl)
  have hd : xs.length.toInt32 ≤ 3072 := by
    simpa [Cond.before, Cond.holds, hv] using hle
  have hN : xs.length ≤ 3072 := (Int32.ofNat_le_ofNat hsm (by decide)).mp (show Int32.ofNat xs.length ≤ Int32.ofNat 3072 from hd)
  exact ⟨b, xs, Cond.one_arg hc (show args[0]? = some (.ref b) from hb), hx, hN, h, rfl⟩
theorem lw_comes (l : Launch) (hflags : l.flags = flags0) : Comes l x (Jvm.Cond.code x code maxLocals ret :: tables_1) room_1 (fun tb e args s => Calls_1 tb e args s ∧ rest_1 tb e args s ∧ Pre_1 tb e args s)
    (fun _ _ args s o t => lw_Q args s o t) := by
  intro p e ha hc hk s m args below hf hfit hheap happ hpre
  obtain ⟨b, xs, hP⟩ := lw_pre_spec hpre.2.2 hpre.2.1
  obtain ⟨k, o, h1, h2, h3, hQ⟩ := lw_walk l hflags b xs s.heap.size p e ha hc hk s m args below hf ((Spec.applies_iff_loose hf).mp happ).1 hP trivial
  exact ⟨k, o, h1, h2, h3, hQ⟩
theorem lw_frame {s t : State} {o : Outcome} {args : Array Value} (h : Framed s o t [] 601024 7293034) :
    Framed s o t (fieldLocs frame_1_writes args s ++ arrayLocs frame_1_arrays args s ++ staticLocs frame_1_statics s) 601024 7293034 := h
theorem lw_limb (L : Cond) (hL : ∀ (args : Array Value) (s t : State), L.after args s (.returned (some (.int 1))) t = true) :
    ArmFor flags0 classFile x code maxLocals ret World_1 tables_1 room_1 Calls_1 rest_1 Pre_1
      (fun tb e a s o t => postC L tb e a s o t ∧ Framed s o t (fieldLocs frame_1_writes a s ++ arrayLocs frame_1_arrays a s ++ staticLocs frame_1_statics s) 601024 7293034) := by
  intro l hflags _ _ p e ha hc hk s m args below hf hfit hheap happ hpre
  obtain ⟨k, o, h1, h2, h3, rfl, hF⟩ := lw_comes l hflags p e ha hc hk s m args below hf hfit hheap happ hpre
  exact ⟨k, _, h1, h2, h3, hL args s _, lw_frame hF⟩
theorem i_vc : Claimed_1_1 ∧ Claimed_1_2 := ⟨lw_limb limb_1_1 (fun args s t => by simp [limb_1_1, Cond.after, Cond.holds, Cond.value]), lw_limb limb_1_2 (fun args s t => Cond.after_iff.mpr (by
  first | (rw [show limb_1_2 = Cond.eq .result (.int 1) from rfl, Cond.eq_ints (x := 1) (y := 1) rfl rfl]; simp; done) | (simp [limb_1_2, Cond.value, Term.eval]; done)))⟩

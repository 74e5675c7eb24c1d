/-! THE REFERENCE PLANTS A RIDDLE -/
def G_it (q : PS) : Int32 := q.1
def S_it (x : Int32) (q : PS) : PS := match q with
  | (it, ho, tp, pl, so, de, ri, mu, ra, lk, cd, te, tf, tt, pg) => (x, ho, tp, pl, so, de, ri, mu, ra, lk, cd, te, tf, tt, pg)
theorem gI_Git (m : Nat) (q : PS) (I : mI) : gI m q I m 78 = G_it q := by
  obtain ⟨it, ho, tp, pl, so, de, ri, mu, ra, lk, cd, te, tf, tt, pg⟩ := q
  exact gI_it m I
theorem gI_Pit (m : Nat) (q : PS) (I : mI) (x : Int32) : va_up (gI m q I) m (va_up (gI m q I m) 78 (x)) = gI m (S_it x q) I := by
  obtain ⟨it, ho, tp, pl, so, de, ri, mu, ra, lk, cd, te, tf, tt, pg⟩ := q
  exact gI_pit m I x
def G_ho (q : PS) : Int32 := q.2.1
def S_ho (x : Int32) (q : PS) : PS := match q with
  | (it, ho, tp, pl, so, de, ri, mu, ra, lk, cd, te, tf, tt, pg) => (it, x, tp, pl, so, de, ri, mu, ra, lk, cd, te, tf, tt, pg)
theorem gI_Gho (m : Nat) (q : PS) (I : mI) : gI m q I m 1 = G_ho q := by
  obtain ⟨it, ho, tp, pl, so, de, ri, mu, ra, lk, cd, te, tf, tt, pg⟩ := q
  exact gI_ho m I
theorem gI_Pho (m : Nat) (q : PS) (I : mI) (x : Int32) : va_up (gI m q I) m (va_up (gI m q I m) 1 (x)) = gI m (S_ho x q) I := by
  obtain ⟨it, ho, tp, pl, so, de, ri, mu, ra, lk, cd, te, tf, tt, pg⟩ := q
  exact gI_pho m I x
def G_tp (q : PS) : Nat := q.2.2.1
def S_tp (x : Nat) (q : PS) : PS := match q with
  | (it, ho, tp, pl, so, de, ri, mu, ra, lk, cd, te, tf, tt, pg) => (it, ho, x, pl, so, de, ri, mu, ra, lk, cd, te, tf, tt, pg)
theorem gI_Gtp (m : Nat) (q : PS) (I : mI) : gI m q I m 30 = nI (G_tp q) := by
  obtain ⟨it, ho, tp, pl, so, de, ri, mu, ra, lk, cd, te, tf, tt, pg⟩ := q
  exact gI_tp m I
theorem gI_Ptp (m : Nat) (q : PS) (I : mI) (x : Nat) : va_up (gI m q I) m (va_up (gI m q I m) 30 (nI (x))) = gI m (S_tp x q) I := by
  obtain ⟨it, ho, tp, pl, so, de, ri, mu, ra, lk, cd, te, tf, tt, pg⟩ := q
  exact gI_ptp m I x
def G_pl (q : PS) : Nat := q.2.2.2.1
def S_pl (x : Nat) (q : PS) : PS := match q with
  | (it, ho, tp, pl, so, de, ri, mu, ra, lk, cd, te, tf, tt, pg) => (it, ho, tp, x, so, de, ri, mu, ra, lk, cd, te, tf, tt, pg)
theorem gI_Gpl (m : Nat) (q : PS) (I : mI) : gI m q I m 77 = nI (G_pl q) := by
  obtain ⟨it, ho, tp, pl, so, de, ri, mu, ra, lk, cd, te, tf, tt, pg⟩ := q
  exact gI_pl m I
theorem gI_Ppl (m : Nat) (q : PS) (I : mI) (x : Nat) : va_up (gI m q I) m (va_up (gI m q I m) 77 (nI (x))) = gI m (S_pl x q) I := by
  obtain ⟨it, ho, tp, pl, so, de, ri, mu, ra, lk, cd, te, tf, tt, pg⟩ := q
  exact gI_ppl m I x
def G_so (q : PS) : Nat → Int32 := q.2.2.2.2.1
def S_so (x : Nat → Int32) (q : PS) : PS := match q with
  | (it, ho, tp, pl, so, de, ri, mu, ra, lk, cd, te, tf, tt, pg) => (it, ho, tp, pl, x, de, ri, mu, ra, lk, cd, te, tf, tt, pg)
theorem gI_Aso (m : Nat) (q : PS) (I : mI) : gI m q I (m + 1) = G_so q := by
  obtain ⟨it, ho, tp, pl, so, de, ri, mu, ra, lk, cd, te, tf, tt, pg⟩ := q
  exact gI_aso m I
theorem gI_Wso (m : Nat) (q : PS) (I : mI) (W : Nat → Int32) : va_up (gI m q I) (m + 1) W = gI m (S_so W q) I := by
  obtain ⟨it, ho, tp, pl, so, de, ri, mu, ra, lk, cd, te, tf, tt, pg⟩ := q
  exact gI_wso m I W
def G_de (q : PS) : Nat → Int32 := q.2.2.2.2.2.1
def S_de (x : Nat → Int32) (q : PS) : PS := match q with
  | (it, ho, tp, pl, so, de, ri, mu, ra, lk, cd, te, tf, tt, pg) => (it, ho, tp, pl, so, x, ri, mu, ra, lk, cd, te, tf, tt, pg)
theorem gI_Ade (m : Nat) (q : PS) (I : mI) : gI m q I (m + 2) = G_de q := by
  obtain ⟨it, ho, tp, pl, so, de, ri, mu, ra, lk, cd, te, tf, tt, pg⟩ := q
  exact gI_ade m I
theorem gI_Wde (m : Nat) (q : PS) (I : mI) (W : Nat → Int32) : va_up (gI m q I) (m + 2) W = gI m (S_de W q) I := by
  obtain ⟨it, ho, tp, pl, so, de, ri, mu, ra, lk, cd, te, tf, tt, pg⟩ := q
  exact gI_wde m I W
def G_ri (q : PS) : Nat → Int32 := q.2.2.2.2.2.2.1
def S_ri (x : Nat → Int32) (q : PS) : PS := match q with
  | (it, ho, tp, pl, so, de, ri, mu, ra, lk, cd, te, tf, tt, pg) => (it, ho, tp, pl, so, de, x, mu, ra, lk, cd, te, tf, tt, pg)
theorem gI_Ari (m : Nat) (q : PS) (I : mI) : gI m q I (m + 3) = G_ri q := by
  obtain ⟨it, ho, tp, pl, so, de, ri, mu, ra, lk, cd, te, tf, tt, pg⟩ := q
  exact gI_ari m I
theorem gI_Wri (m : Nat) (q : PS) (I : mI) (W : Nat → Int32) : va_up (gI m q I) (m + 3) W = gI m (S_ri W q) I := by
  obtain ⟨it, ho, tp, pl, so, de, ri, mu, ra, lk, cd, te, tf, tt, pg⟩ := q
  exact gI_wri m I W
def G_mu (q : PS) : Nat → Int32 := q.2.2.2.2.2.2.2.1
def S_mu (x : Nat → Int32) (q : PS) : PS := match q with
  | (it, ho, tp, pl, so, de, ri, mu, ra, lk, cd, te, tf, tt, pg) => (it, ho, tp, pl, so, de, ri, x, ra, lk, cd, te, tf, tt, pg)
theorem gI_Amu (m : Nat) (q : PS) (I : mI) : gI m q I (m + 4) = G_mu q := by
  obtain ⟨it, ho, tp, pl, so, de, ri, mu, ra, lk, cd, te, tf, tt, pg⟩ := q
  exact gI_amu m I
theorem gI_Wmu (m : Nat) (q : PS) (I : mI) (W : Nat → Int32) : va_up (gI m q I) (m + 4) W = gI m (S_mu W q) I := by
  obtain ⟨it, ho, tp, pl, so, de, ri, mu, ra, lk, cd, te, tf, tt, pg⟩ := q
  exact gI_wmu m I W
def G_ra (q : PS) : Nat → Int32 := q.2.2.2.2.2.2.2.2.1
def S_ra (x : Nat → Int32) (q : PS) : PS := match q with
  | (it, ho, tp, pl, so, de, ri, mu, ra, lk, cd, te, tf, tt, pg) => (it, ho, tp, pl, so, de, ri, mu, x, lk, cd, te, tf, tt, pg)
theorem gI_Ara (m : Nat) (q : PS) (I : mI) : gI m q I (m + 5) = G_ra q := by
  obtain ⟨it, ho, tp, pl, so, de, ri, mu, ra, lk, cd, te, tf, tt, pg⟩ := q
  exact gI_ara m I
theorem gI_Wra (m : Nat) (q : PS) (I : mI) (W : Nat → Int32) : va_up (gI m q I) (m + 5) W = gI m (S_ra W q) I := by
  obtain ⟨it, ho, tp, pl, so, de, ri, mu, ra, lk, cd, te, tf, tt, pg⟩ := q
  exact gI_wra m I W
def G_lk (q : PS) : Nat → Int32 := q.2.2.2.2.2.2.2.2.2.1
def S_lk (x : Nat → Int32) (q : PS) : PS := match q with
  | (it, ho, tp, pl, so, de, ri, mu, ra, lk, cd, te, tf, tt, pg) => (it, ho, tp, pl, so, de, ri, mu, ra, x, cd, te, tf, tt, pg)
theorem gI_Alk (m : Nat) (q : PS) (I : mI) : gI m q I (m + 6) = G_lk q := by
  obtain ⟨it, ho, tp, pl, so, de, ri, mu, ra, lk, cd, te, tf, tt, pg⟩ := q
  exact gI_alk m I
theorem gI_Wlk (m : Nat) (q : PS) (I : mI) (W : Nat → Int32) : va_up (gI m q I) (m + 6) W = gI m (S_lk W q) I := by
  obtain ⟨it, ho, tp, pl, so, de, ri, mu, ra, lk, cd, te, tf, tt, pg⟩ := q
  exact gI_wlk m I W
def G_cd (q : PS) : Nat → Int32 := q.2.2.2.2.2.2.2.2.2.2.1
def S_cd (x : Nat → Int32) (q : PS) : PS := match q with
  | (it, ho, tp, pl, so, de, ri, mu, ra, lk, cd, te, tf, tt, pg) => (it, ho, tp, pl, so, de, ri, mu, ra, lk, x, te, tf, tt, pg)
theorem gI_Acd (m : Nat) (q : PS) (I : mI) : gI m q I (m + 7) = G_cd q := by
  obtain ⟨it, ho, tp, pl, so, de, ri, mu, ra, lk, cd, te, tf, tt, pg⟩ := q
  exact gI_acd m I
theorem gI_Wcd (m : Nat) (q : PS) (I : mI) (W : Nat → Int32) : va_up (gI m q I) (m + 7) W = gI m (S_cd W q) I := by
  obtain ⟨it, ho, tp, pl, so, de, ri, mu, ra, lk, cd, te, tf, tt, pg⟩ := q
  exact gI_wcd m I W
def G_te (q : PS) : Nat → Int32 := q.2.2.2.2.2.2.2.2.2.2.2.1
def S_te (x : Nat → Int32) (q : PS) : PS := match q with
  | (it, ho, tp, pl, so, de, ri, mu, ra, lk, cd, te, tf, tt, pg) => (it, ho, tp, pl, so, de, ri, mu, ra, lk, cd, x, tf, tt, pg)
theorem gI_Ate (m : Nat) (q : PS) (I : mI) : gI m q I (m + 8) = G_te q := by
  obtain ⟨it, ho, tp, pl, so, de, ri, mu, ra, lk, cd, te, tf, tt, pg⟩ := q
  exact gI_ate m I
theorem gI_Wte (m : Nat) (q : PS) (I : mI) (W : Nat → Int32) : va_up (gI m q I) (m + 8) W = gI m (S_te W q) I := by
  obtain ⟨it, ho, tp, pl, so, de, ri, mu, ra, lk, cd, te, tf, tt, pg⟩ := q
  exact gI_wte m I W
def G_tf (q : PS) : Nat → Int32 := q.2.2.2.2.2.2.2.2.2.2.2.2.1
def S_tf (x : Nat → Int32) (q : PS) : PS := match q with
  | (it, ho, tp, pl, so, de, ri, mu, ra, lk, cd, te, tf, tt, pg) => (it, ho, tp, pl, so, de, ri, mu, ra, lk, cd, te, x, tt, pg)
theorem gI_Atf (m : Nat) (q : PS) (I : mI) : gI m q I (m + 9) = G_tf q := by
  obtain ⟨it, ho, tp, pl, so, de, ri, mu, ra, lk, cd, te, tf, tt, pg⟩ := q
  exact gI_atf m I
theorem gI_Wtf (m : Nat) (q : PS) (I : mI) (W : Nat → Int32) : va_up (gI m q I) (m + 9) W = gI m (S_tf W q) I := by
  obtain ⟨it, ho, tp, pl, so, de, ri, mu, ra, lk, cd, te, tf, tt, pg⟩ := q
  exact gI_wtf m I W
def G_tt (q : PS) : Nat → Int32 := q.2.2.2.2.2.2.2.2.2.2.2.2.2.1
def S_tt (x : Nat → Int32) (q : PS) : PS := match q with
  | (it, ho, tp, pl, so, de, ri, mu, ra, lk, cd, te, tf, tt, pg) => (it, ho, tp, pl, so, de, ri, mu, ra, lk, cd, te, tf, x, pg)
theorem gI_Att (m : Nat) (q : PS) (I : mI) : gI m q I (m + 10) = G_tt q := by
  obtain ⟨it, ho, tp, pl, so, de, ri, mu, ra, lk, cd, te, tf, tt, pg⟩ := q
  exact gI_att m I
theorem gI_Wtt (m : Nat) (q : PS) (I : mI) (W : Nat → Int32) : va_up (gI m q I) (m + 10) W = gI m (S_tt W q) I := by
  obtain ⟨it, ho, tp, pl, so, de, ri, mu, ra, lk, cd, te, tf, tt, pg⟩ := q
  exact gI_wtt m I W
def G_pg (q : PS) : Nat → Int32 := q.2.2.2.2.2.2.2.2.2.2.2.2.2.2
def S_pg (x : Nat → Int32) (q : PS) : PS := match q with
  | (it, ho, tp, pl, so, de, ri, mu, ra, lk, cd, te, tf, tt, pg) => (it, ho, tp, pl, so, de, ri, mu, ra, lk, cd, te, tf, tt, x)
theorem gI_Apg (m : Nat) (q : PS) (I : mI) : gI m q I (m + 40) = G_pg q := by
  obtain ⟨it, ho, tp, pl, so, de, ri, mu, ra, lk, cd, te, tf, tt, pg⟩ := q
  exact gI_apg m I
theorem gI_Wpg (m : Nat) (q : PS) (I : mI) (W : Nat → Int32) : va_up (gI m q I) (m + 40) W = gI m (S_pg W q) I := by
  obtain ⟨it, ho, tp, pl, so, de, ri, mu, ra, lk, cd, te, tf, tt, pg⟩ := q
  exact gI_wpg m I W
theorem gI_O (m : Nat) (q : PS) (I : mI) {j : Nat} (h : j ≠ 78 ∧ j ≠ 1 ∧ j ≠ 30 ∧ j ≠ 77) : gI m q I m j = I m j := by
  obtain ⟨it, ho, tp, pl, so, de, ri, mu, ra, lk, cd, te, tf, tt, pg⟩ := q
  exact gI_o m I h
theorem gI_NE (m : Nat) (q : PS) (I : mI) {a : Nat} (h : a < m ∨ m + 55 < a ∨ (m + 10 < a ∧ a ≠ m + 40)) : gI m q I a = I a := by
  obtain ⟨it, ho, tp, pl, so, de, ri, mu, ra, lk, cd, te, tf, tt, pg⟩ := q
  exact gI_ne m I (by omega) (by omega) (by omega) (by omega) (by omega) (by omega) (by omega) (by omega) (by omega) (by omega) (by omega) (by omega)
def pSet (h : Nat) (mk : Int32) (q : PS) : PS := S_tf (va_up (G_tf (S_lk (va_up (G_lk (S_ra (va_up (G_ra (S_ri (va_up (G_ri q) h (nI 1)) q)) h (nI (G_tp (S_ri (va_up (G_ri q) h (nI 1)) q)))) (S_ri (va_up (G_ri q) h (nI 1)) q))) h mk) (S_ra (va_up (G_ra (S_ri (va_up (G_ri q) h (nI 1)) q)) h (nI (G_tp (S_ri (va_up (G_ri q) h (nI 1)) q)))) (S_ri (va_up (G_ri q) h (nI 1)) q)))) h (nI (G_pl (S_lk (va_up (G_lk (S_ra (va_up (G_ra (S_ri (va_up (G_ri q) h (nI 1)) q)) h (nI (G_tp (S_ri (va_up (G_ri q) h (nI 1)) q)))) (S_ri (va_up (G_ri q) h (nI 1)) q))) h mk) (S_ra (va_up (G_ra (S_ri (va_up (G_ri q) h (nI 1)) q)) h (nI (G_tp (S_ri (va_up (G_ri q) h (nI 1)) q)))) (S_ri (va_up (G_ri q) h (nI 1)) q)))))) (S_lk (va_up (G_lk (S_ra (va_up (G_ra (S_ri (va_up (G_ri q) h (nI 1)) q)) h (nI (G_tp (S_ri (va_up (G_ri q) h (nI 1)) q)))) (S_ri (va_up (G_ri q) h (nI 1)) q))) h mk) (S_ra (va_up (G_ra (S_ri (va_up (G_ri q) h (nI 1)) q)) h (nI (G_tp (S_ri (va_up (G_ri q) h (nI 1)) q)))) (S_ri (va_up (G_ri q) h (nI 1)) q)))
def pEnd (h : Nat) (q : PS) : PS := S_tt (va_up (G_tt q) h (nI (G_pl q))) q
theorem pSet_pl (h : Nat) (mk : Int32) (q : PS) : pPl (pSet h mk q) = pPl q ∧ pTp (pSet h mk q) = pTp q ∧ pIt (pSet h mk q) = pIt q := by
  obtain ⟨it, ho, tp, pl, so, de, ri, mu, ra, lk, cd, te, tf, tt, pg⟩ := q
  exact ⟨rfl, rfl, rfl⟩
theorem pEnd_pl (h : Nat) (q : PS) : pPl (pEnd h q) = pPl q ∧ pTp (pEnd h q) = pTp q ∧ pIt (pEnd h q) = pIt q := by
  obtain ⟨it, ho, tp, pl, so, de, ri, mu, ra, lk, cd, te, tf, tt, pg⟩ := q
  simp only [pEnd, S_tt, pPl, pTp, pIt, and_self]
theorem pP_raw (v : Nat) (q : PS) : S_tp (G_tp q + 2) (S_cd (va_up (va_up (G_cd q) (G_tp q) (nI 1)) (G_tp q + 1) (nI v)) q) = pP v q := by
  obtain ⟨it, ho, tp, pl, so, de, ri, mu, ra, lk, cd, te, tf, tt, pg⟩ := q
  rfl
theorem S_cd_cd (A B : Nat → Int32) (q : PS) : S_cd A (S_cd B q) = S_cd A q ∧ G_cd (S_cd A q) = A ∧ G_tp (S_cd A q) = G_tp q := by
  obtain ⟨it, ho, tp, pl, so, de, ri, mu, ra, lk, cd, te, tf, tt, pg⟩ := q
  exact ⟨rfl, rfl, rfl⟩
def hereW : List Int32 := [nI 104, nI 101, nI 114, nI 101]
def ofW : List Int32 := [nI 111, nI 102]
def notW : List Int32 := [nI 110, nI 111, nI 116]
def pl1 (h v : Nat) (q : PS) : PS := pEnd h (pA (nI 0) (pA (nI 7) (pP v (pWs (dg v) (pV h (pW (nI 61) (pWs hereW (pSet h ((nI 1 <<< (nI h &&& 31)) ||| nI 0) q))))))))
def pl2 (h k v : Nat) (q : PS) : PS := pEnd h (pA (nI 0) (pA (nI 7) (pA (nI 8) (pP v (pWs (dg v) (pW (nI 43) (pV k (pWs (dg k) (pW (nI 32) (pWs ofW (pV h (pW (nI 61) (pWs hereW (pSet h ((nI 1 <<< (nI h &&& 31)) ||| (nI 1 <<< (nI k &&& 31))) q))))))))))))))
def pl3 (h k : Nat) (q : PS) : PS := pEnd h (pA (nI 0) (pA (nI 3) (pA (nI 7) (pV k (pWs (dg k) (pW (nI 32) (pWs ofW (pV h (pW (nI 61) (pWs hereW (pW (nI 32) (pWs notW (pSet h ((nI 1 <<< (nI h &&& 31)) ||| (nI 1 <<< (nI k &&& 31))) q)))))))))))))
theorem dX10_plants_0 : decode cX10_plants 0 = .ok (.iload_n 2, 1) := by decide +kernel
theorem dX10_plants_1 : decode cX10_plants 1 = .ok (.iconst 1, 1) := by decide +kernel
theorem dX10_plants_2 : decode cX10_plants 2 = .ok (.if_icmp .ne 7, 3) := by decide +kernel
theorem dX10_plants_5 : decode cX10_plants 5 = .ok (.iconst (-1), 1) := by decide +kernel
theorem dX10_plants_6 : decode cX10_plants 6 = .ok (.goto 8, 3) := by decide +kernel
theorem dX10_plants_9 : decode cX10_plants 9 = .ok (.aload_n 0, 1) := by decide +kernel
theorem dX10_plants_10 : decode cX10_plants 10 = .ok (.iload_n 1, 1) := by decide +kernel
theorem dX10_plants_11 : decode cX10_plants 11 = .ok (.invokevirtual 532, 3) := by decide +kernel
theorem dX10_plants_14 : decode cX10_plants 14 = .ok (.istore_n 3, 1) := by decide +kernel
theorem dX10_plants_15 : decode cX10_plants 15 = .ok (.iload_n 2, 1) := by decide +kernel
theorem dX10_plants_16 : decode cX10_plants 16 = .ok (.iconst 1, 1) := by decide +kernel
theorem dX10_plants_17 : decode cX10_plants 17 = .ok (.if_icmp .ne 16, 3) := by decide +kernel
theorem dX10_plants_20 : decode cX10_plants 20 = .ok (.iconst 1, 1) := by decide +kernel
theorem dX10_plants_21 : decode cX10_plants 21 = .ok (.aload_n 0, 1) := by decide +kernel
theorem dX10_plants_22 : decode cX10_plants 22 = .ok (.aload_n 0, 1) := by decide +kernel
theorem dX10_plants_23 : decode cX10_plants 23 = .ok (.getfield 7, 3) := by decide +kernel
theorem dX10_plants_26 : decode cX10_plants 26 = .ok (.invokevirtual 532, 3) := by decide +kernel
theorem dX10_plants_29 : decode cX10_plants 29 = .ok (.iadd, 1) := by decide +kernel
theorem dX10_plants_30 : decode cX10_plants 30 = .ok (.goto 17, 3) := by decide +kernel
theorem dX10_plants_33 : decode cX10_plants 33 = .ok (.iload_n 2, 1) := by decide +kernel
theorem dX10_plants_34 : decode cX10_plants 34 = .ok (.iconst 2, 1) := by decide +kernel
theorem dX10_plants_35 : decode cX10_plants 35 = .ok (.if_icmp .ne 11, 3) := by decide +kernel
theorem dX10_plants_38 : decode cX10_plants 38 = .ok (.aload_n 0, 1) := by decide +kernel
theorem dX10_plants_39 : decode cX10_plants 39 = .ok (.iconst 4, 1) := by decide +kernel
theorem dX10_plants_40 : decode cX10_plants 40 = .ok (.invokevirtual 532, 3) := by decide +kernel
theorem dX10_plants_43 : decode cX10_plants 43 = .ok (.goto 4, 3) := by decide +kernel
theorem dX10_plants_46 : decode cX10_plants 46 = .ok (.iconst (-1), 1) := by decide +kernel
theorem dX10_plants_47 : decode cX10_plants 47 = .ok (.istore 4, 2) := by decide +kernel
theorem dX10_plants_49 : decode cX10_plants 49 = .ok (.aload_n 0, 1) := by decide +kernel
theorem dX10_plants_50 : decode cX10_plants 50 = .ok (.getfield 20, 3) := by decide +kernel
theorem dX10_plants_53 : decode cX10_plants 53 = .ok (.iload_n 1, 1) := by decide +kernel
theorem dX10_plants_54 : decode cX10_plants 54 = .ok (.iconst 1, 1) := by decide +kernel
theorem dX10_plants_55 : decode cX10_plants 55 = .ok (.iastore, 1) := by decide +kernel
theorem dX10_plants_56 : decode cX10_plants 56 = .ok (.aload_n 0, 1) := by decide +kernel
theorem dX10_plants_57 : decode cX10_plants 57 = .ok (.getfield 26, 3) := by decide +kernel
theorem dX10_plants_60 : decode cX10_plants 60 = .ok (.iload_n 1, 1) := by decide +kernel
theorem dX10_plants_61 : decode cX10_plants 61 = .ok (.aload_n 0, 1) := by decide +kernel
theorem dX10_plants_62 : decode cX10_plants 62 = .ok (.getfield 275, 3) := by decide +kernel
theorem dX10_plants_65 : decode cX10_plants 65 = .ok (.iastore, 1) := by decide +kernel
theorem dX10_plants_66 : decode cX10_plants 66 = .ok (.aload_n 0, 1) := by decide +kernel
theorem dX10_plants_67 : decode cX10_plants 67 = .ok (.getfield 29, 3) := by decide +kernel
theorem dX10_plants_70 : decode cX10_plants 70 = .ok (.iload_n 1, 1) := by decide +kernel
theorem dX10_plants_71 : decode cX10_plants 71 = .ok (.iconst 1, 1) := by decide +kernel
theorem dX10_plants_72 : decode cX10_plants 72 = .ok (.iload_n 1, 1) := by decide +kernel
theorem dX10_plants_73 : decode cX10_plants 73 = .ok (.ishl, 1) := by decide +kernel
theorem dX10_plants_74 : decode cX10_plants 74 = .ok (.iload_n 3, 1) := by decide +kernel
theorem dX10_plants_75 : decode cX10_plants 75 = .ok (.iconst (-1), 1) := by decide +kernel
theorem dX10_plants_76 : decode cX10_plants 76 = .ok (.if_icmp .ne 7, 3) := by decide +kernel
theorem dX10_plants_79 : decode cX10_plants 79 = .ok (.iconst 0, 1) := by decide +kernel
theorem dX10_plants_80 : decode cX10_plants 80 = .ok (.goto 6, 3) := by decide +kernel
theorem dX10_plants_83 : decode cX10_plants 83 = .ok (.iconst 1, 1) := by decide +kernel
theorem dX10_plants_84 : decode cX10_plants 84 = .ok (.iload_n 3, 1) := by decide +kernel
theorem dX10_plants_85 : decode cX10_plants 85 = .ok (.ishl, 1) := by decide +kernel
theorem dX10_plants_86 : decode cX10_plants 86 = .ok (.ior, 1) := by decide +kernel
theorem dX10_plants_87 : decode cX10_plants 87 = .ok (.iastore, 1) := by decide +kernel
theorem dX10_plants_88 : decode cX10_plants 88 = .ok (.aload_n 0, 1) := by decide +kernel
theorem dX10_plants_89 : decode cX10_plants 89 = .ok (.getfield 38, 3) := by decide +kernel
theorem dX10_plants_92 : decode cX10_plants 92 = .ok (.iload_n 1, 1) := by decide +kernel
theorem dX10_plants_93 : decode cX10_plants 93 = .ok (.aload_n 0, 1) := by decide +kernel
theorem dX10_plants_94 : decode cX10_plants 94 = .ok (.getfield 505, 3) := by decide +kernel
theorem dX10_plants_97 : decode cX10_plants 97 = .ok (.iastore, 1) := by decide +kernel
theorem dX10_plants_98 : decode cX10_plants 98 = .ok (.iload_n 2, 1) := by decide +kernel
theorem dX10_plants_99 : decode cX10_plants 99 = .ok (.iconst 3, 1) := by decide +kernel
theorem dX10_plants_100 : decode cX10_plants 100 = .ok (.if_icmp .ne 15, 3) := by decide +kernel
theorem dX10_plants_103 : decode cX10_plants 103 = .ok (.aload_n 0, 1) := by decide +kernel
theorem dX10_plants_104 : decode cX10_plants 104 = .ok (.bipush 12, 2) := by decide +kernel
theorem dX10_plants_106 : decode cX10_plants 106 = .ok (.invokevirtual 514, 3) := by decide +kernel
theorem dX10_plants_109 : decode cX10_plants 109 = .ok (.aload_n 0, 1) := by decide +kernel
theorem dX10_plants_110 : decode cX10_plants 110 = .ok (.bipush 32, 2) := by decide +kernel
theorem dX10_plants_112 : decode cX10_plants 112 = .ok (.invokevirtual 508, 3) := by decide +kernel
theorem dX10_plants_115 : decode cX10_plants 115 = .ok (.aload_n 0, 1) := by decide +kernel
theorem dX10_plants_116 : decode cX10_plants 116 = .ok (.iconst 0, 1) := by decide +kernel
theorem dX10_plants_117 : decode cX10_plants 117 = .ok (.invokevirtual 514, 3) := by decide +kernel
theorem dX10_plants_120 : decode cX10_plants 120 = .ok (.aload_n 0, 1) := by decide +kernel
theorem dX10_plants_121 : decode cX10_plants 121 = .ok (.bipush 61, 2) := by decide +kernel
theorem dX10_plants_123 : decode cX10_plants 123 = .ok (.invokevirtual 508, 3) := by decide +kernel
theorem dX10_plants_126 : decode cX10_plants 126 = .ok (.aload_n 0, 1) := by decide +kernel
theorem dX10_plants_127 : decode cX10_plants 127 = .ok (.iload_n 1, 1) := by decide +kernel
theorem dX10_plants_128 : decode cX10_plants 128 = .ok (.invokevirtual 535, 3) := by decide +kernel
theorem dX10_plants_131 : decode cX10_plants 131 = .ok (.iload_n 3, 1) := by decide +kernel
theorem dX10_plants_132 : decode cX10_plants 132 = .ok (.iconst (-1), 1) := by decide +kernel
theorem dX10_plants_133 : decode cX10_plants 133 = .ok (.if_icmp .eq 25, 3) := by decide +kernel
theorem dX10_plants_136 : decode cX10_plants 136 = .ok (.aload_n 0, 1) := by decide +kernel
theorem dX10_plants_137 : decode cX10_plants 137 = .ok (.bipush 6, 2) := by decide +kernel
theorem dX10_plants_139 : decode cX10_plants 139 = .ok (.invokevirtual 514, 3) := by decide +kernel
theorem dX10_plants_142 : decode cX10_plants 142 = .ok (.aload_n 0, 1) := by decide +kernel
theorem dX10_plants_143 : decode cX10_plants 143 = .ok (.bipush 32, 2) := by decide +kernel
theorem dX10_plants_145 : decode cX10_plants 145 = .ok (.invokevirtual 508, 3) := by decide +kernel
theorem dX10_plants_148 : decode cX10_plants 148 = .ok (.aload_n 0, 1) := by decide +kernel
theorem dX10_plants_149 : decode cX10_plants 149 = .ok (.iload_n 3, 1) := by decide +kernel
theorem dX10_plants_150 : decode cX10_plants 150 = .ok (.invokevirtual 517, 3) := by decide +kernel
theorem dX10_plants_153 : decode cX10_plants 153 = .ok (.aload_n 0, 1) := by decide +kernel
theorem dX10_plants_154 : decode cX10_plants 154 = .ok (.iload_n 3, 1) := by decide +kernel
theorem dX10_plants_155 : decode cX10_plants 155 = .ok (.invokevirtual 535, 3) := by decide +kernel
theorem dX10_plants_158 : decode cX10_plants 158 = .ok (.iload_n 2, 1) := by decide +kernel
theorem dX10_plants_159 : decode cX10_plants 159 = .ok (.iconst 2, 1) := by decide +kernel
theorem dX10_plants_160 : decode cX10_plants 160 = .ok (.if_icmp .ne 9, 3) := by decide +kernel
theorem dX10_plants_163 : decode cX10_plants 163 = .ok (.aload_n 0, 1) := by decide +kernel
theorem dX10_plants_164 : decode cX10_plants 164 = .ok (.bipush 43, 2) := by decide +kernel
theorem dX10_plants_166 : decode cX10_plants 166 = .ok (.invokevirtual 508, 3) := by decide +kernel
theorem dX10_plants_169 : decode cX10_plants 169 = .ok (.iload 4, 2) := by decide +kernel
theorem dX10_plants_171 : decode cX10_plants 171 = .ok (.iconst (-1), 1) := by decide +kernel
theorem dX10_plants_172 : decode cX10_plants 172 = .ok (.if_icmp .eq 42, 3) := by decide +kernel
theorem dX10_plants_175 : decode cX10_plants 175 = .ok (.aload_n 0, 1) := by decide +kernel
theorem dX10_plants_176 : decode cX10_plants 176 = .ok (.iload 4, 2) := by decide +kernel
theorem dX10_plants_178 : decode cX10_plants 178 = .ok (.invokevirtual 517, 3) := by decide +kernel
theorem dX10_plants_181 : decode cX10_plants 181 = .ok (.aload_n 0, 1) := by decide +kernel
theorem dX10_plants_182 : decode cX10_plants 182 = .ok (.getfield 32, 3) := by decide +kernel
theorem dX10_plants_185 : decode cX10_plants 185 = .ok (.aload_n 0, 1) := by decide +kernel
theorem dX10_plants_186 : decode cX10_plants 186 = .ok (.getfield 275, 3) := by decide +kernel
theorem dX10_plants_189 : decode cX10_plants 189 = .ok (.iconst 1, 1) := by decide +kernel
theorem dX10_plants_190 : decode cX10_plants 190 = .ok (.iastore, 1) := by decide +kernel
theorem dX10_plants_191 : decode cX10_plants 191 = .ok (.aload_n 0, 1) := by decide +kernel
theorem dX10_plants_192 : decode cX10_plants 192 = .ok (.getfield 32, 3) := by decide +kernel
theorem dX10_plants_195 : decode cX10_plants 195 = .ok (.aload_n 0, 1) := by decide +kernel
theorem dX10_plants_196 : decode cX10_plants 196 = .ok (.getfield 275, 3) := by decide +kernel
theorem dX10_plants_199 : decode cX10_plants 199 = .ok (.iconst 1, 1) := by decide +kernel
theorem dX10_plants_200 : decode cX10_plants 200 = .ok (.iadd, 1) := by decide +kernel
theorem dX10_plants_201 : decode cX10_plants 201 = .ok (.iload 4, 2) := by decide +kernel
theorem dX10_plants_203 : decode cX10_plants 203 = .ok (.iastore, 1) := by decide +kernel
theorem dX10_plants_204 : decode cX10_plants 204 = .ok (.aload_n 0, 1) := by decide +kernel
theorem dX10_plants_205 : decode cX10_plants 205 = .ok (.dup, 1) := by decide +kernel
theorem dX10_plants_206 : decode cX10_plants 206 = .ok (.getfield 275, 3) := by decide +kernel
theorem dX10_plants_209 : decode cX10_plants 209 = .ok (.iconst 2, 1) := by decide +kernel
theorem dX10_plants_210 : decode cX10_plants 210 = .ok (.iadd, 1) := by decide +kernel
theorem dX10_plants_211 : decode cX10_plants 211 = .ok (.putfield 275, 3) := by decide +kernel
theorem dX10_plants_214 : decode cX10_plants 214 = .ok (.iload_n 2, 1) := by decide +kernel
theorem dX10_plants_215 : decode cX10_plants 215 = .ok (.iconst 2, 1) := by decide +kernel
theorem dX10_plants_216 : decode cX10_plants 216 = .ok (.if_icmp .ne 9, 3) := by decide +kernel
theorem dX10_plants_219 : decode cX10_plants 219 = .ok (.aload_n 0, 1) := by decide +kernel
theorem dX10_plants_220 : decode cX10_plants 220 = .ok (.bipush 8, 2) := by decide +kernel
theorem dX10_plants_222 : decode cX10_plants 222 = .ok (.invokevirtual 538, 3) := by decide +kernel
theorem dX10_plants_225 : decode cX10_plants 225 = .ok (.aload_n 0, 1) := by decide +kernel
theorem dX10_plants_226 : decode cX10_plants 226 = .ok (.bipush 7, 2) := by decide +kernel
theorem dX10_plants_228 : decode cX10_plants 228 = .ok (.invokevirtual 538, 3) := by decide +kernel
theorem dX10_plants_231 : decode cX10_plants 231 = .ok (.iload_n 2, 1) := by decide +kernel
theorem dX10_plants_232 : decode cX10_plants 232 = .ok (.iconst 3, 1) := by decide +kernel
theorem dX10_plants_233 : decode cX10_plants 233 = .ok (.if_icmp .ne 8, 3) := by decide +kernel
theorem dX10_plants_236 : decode cX10_plants 236 = .ok (.aload_n 0, 1) := by decide +kernel
theorem dX10_plants_237 : decode cX10_plants 237 = .ok (.iconst 3, 1) := by decide +kernel
theorem dX10_plants_238 : decode cX10_plants 238 = .ok (.invokevirtual 538, 3) := by decide +kernel
theorem dX10_plants_241 : decode cX10_plants 241 = .ok (.aload_n 0, 1) := by decide +kernel
theorem dX10_plants_242 : decode cX10_plants 242 = .ok (.iconst 0, 1) := by decide +kernel
theorem dX10_plants_243 : decode cX10_plants 243 = .ok (.invokevirtual 538, 3) := by decide +kernel
theorem dX10_plants_246 : decode cX10_plants 246 = .ok (.aload_n 0, 1) := by decide +kernel
theorem dX10_plants_247 : decode cX10_plants 247 = .ok (.getfield 41, 3) := by decide +kernel
theorem dX10_plants_250 : decode cX10_plants 250 = .ok (.iload_n 1, 1) := by decide +kernel
theorem dX10_plants_251 : decode cX10_plants 251 = .ok (.aload_n 0, 1) := by decide +kernel
theorem dX10_plants_252 : decode cX10_plants 252 = .ok (.getfield 505, 3) := by decide +kernel
theorem dX10_plants_255 : decode cX10_plants 255 = .ok (.iastore, 1) := by decide +kernel
theorem dX10_plants_256 : decode cX10_plants 256 = .ok (.return_, 1) := by decide +kernel

set_option maxHeartbeats 4000000 in
set_option maxRecDepth 100000 in
theorem c_pl1 (m h M : Nat) (q : PS) {n : Nat} {kd : mK} {I : mI} {J : mJ} {P : mP} (hM : kM kd P m) (hh : h < 8) (ht : pTp q + 20 < 1300) (hp : pPl q + 40 < 1100) (hMo : I m 2 = nI M) (hM0 : 0 < M) (hM20 : M ≤ 20) : Ct yX10_plants cX10_plants 5 none 4 0 0 [.ref m, .int (nI h), .int (nI 1)] n kd (gI m q I) J P (am_is none n kd (gI m (pl1 h (1 + dv (lcg (pIt q)) % M) (pD q)) I) J P) := by
  have a1 := Nat.mod_lt (dv (lcg (pIt q))) hM0
  have l1 := dg_len (1 + dv (lcg (pIt q)) % M)
  refine ct_of 2 (by decide +kernel) (Nat.le_of_ble_eq_true rfl) rfl ?_
  refine r_iload_n dX10_plants_0 rfl ?_
  refine r_iconst (v := nI 1) dX10_plants_1 (by decide) ?_
  refine r_icmp_ne (tgt := 9) dX10_plants_2 (by decide) (fun hz => absurd (show _ from rfl) hz) (fun _ => ?_)
  refine r_iconst (v := (-1)) dX10_plants_5 (by decide) ?_
  refine r_goto (tgt := 14) dX10_plants_6 (by decide) ?_
  refine r_istore_n dX10_plants_14 (by decide) ?_
  refine r_iload_n dX10_plants_15 rfl ?_
  refine r_iconst (v := nI 1) dX10_plants_16 (by decide) ?_
  refine r_icmp_ne (tgt := 33) dX10_plants_17 (by decide) (fun hz => absurd (show _ from rfl) hz) (fun _ => ?_)
  refine r_iconst (v := nI 1) dX10_plants_20 (by decide) ?_
  refine r_aload_n dX10_plants_21 rfl ?_
  refine r_aload_n dX10_plants_22 rfl ?_
  refine r_getI dX10_plants_23 fl_X10_7 rfl (kM_0 hM) ?_
  rw [gI_O _ _ _ (by decide), hMo]
  refine r_virtE (c_d m (q) (M) hM (hM0) (by omega)) lk_X10_532 mc_X10_draw dX10_plants_26 (kM_0 hM) (by decide) rfl rfl (Nat.le_of_ble_eq_true rfl) ?_
  refine r_iadd dX10_plants_29 ?_
  rw [nI_add]
  refine r_goto (tgt := 47) dX10_plants_30 (by decide) ?_
  refine r_istore dX10_plants_47 (by decide) ?_
  refine r_aload_n dX10_plants_49 rfl ?_
  refine r_getR dX10_plants_50 fl_X10_20 rfl (kM_0 hM) (pM_6 hM) ?_
  refine r_iload_n dX10_plants_53 rfl ?_
  refine r_iconst (v := nI 1) dX10_plants_54 (by decide) ?_
  refine r_iast dX10_plants_55 (aM_6 hM) (nI_in8 8 (by omega) (by decide)) (nI_clamp (by omega)) ?_
  rw [gI_Ari, gI_Wri]
  refine r_aload_n dX10_plants_56 rfl ?_
  refine r_getR dX10_plants_57 fl_X10_26 rfl (kM_0 hM) (pM_8 hM) ?_
  refine r_iload_n dX10_plants_60 rfl ?_
  refine r_aload_n dX10_plants_61 rfl ?_
  refine r_getI dX10_plants_62 fl_X10_275 rfl (kM_0 hM) ?_
  rw [gI_Gtp]
  refine r_iast dX10_plants_65 (aM_8 hM) (nI_in8 8 (by omega) (by decide)) (nI_clamp (by omega)) ?_
  rw [gI_Ara, gI_Wra]
  refine r_aload_n dX10_plants_66 rfl ?_
  refine r_getR dX10_plants_67 fl_X10_29 rfl (kM_0 hM) (pM_9 hM) ?_
  refine r_iload_n dX10_plants_70 rfl ?_
  refine r_iconst (v := nI 1) dX10_plants_71 (by decide) ?_
  refine r_iload_n dX10_plants_72 rfl ?_
  refine r_ishl dX10_plants_73 ?_
  refine r_iload_n dX10_plants_74 rfl ?_
  refine r_iconst (v := (-1)) dX10_plants_75 (by decide) ?_
  refine r_icmp_ne (tgt := 83) dX10_plants_76 (by decide) (fun hz => absurd (show _ from rfl) hz) (fun _ => ?_)
  refine r_iconst (v := nI 0) dX10_plants_79 (by decide) ?_
  refine r_goto (tgt := 86) dX10_plants_80 (by decide) ?_
  refine r_ior dX10_plants_86 ?_
  refine r_iast dX10_plants_87 (aM_9 hM) (nI_in8 8 (by omega) (by decide)) (nI_clamp (by omega)) ?_
  rw [gI_Alk, gI_Wlk]
  refine r_aload_n dX10_plants_88 rfl ?_
  refine r_getR dX10_plants_89 fl_X10_38 rfl (kM_0 hM) (pM_12 hM) ?_
  refine r_iload_n dX10_plants_92 rfl ?_
  refine r_aload_n dX10_plants_93 rfl ?_
  refine r_getI dX10_plants_94 fl_X10_505 rfl (kM_0 hM) ?_
  rw [gI_Gpl]
  refine r_iast dX10_plants_97 (aM_12 hM) (nI_in8 8 (by omega) (by decide)) (nI_clamp (by omega)) ?_
  rw [gI_Atf, gI_Wtf]
  change RuZ _ _ _ _ _ _ _ _ _ _ _ _ _ _ _ (gI m (pSet h ((nI 1 <<< (nI h &&& 31)) ||| nI 0) (pD q)) I) _ _
  refine r_iload_n dX10_plants_98 rfl ?_
  refine r_iconst (v := nI 3) dX10_plants_99 (by decide) ?_
  refine r_icmp_ne (tgt := 115) dX10_plants_100 (by decide) (fun _ => ?_) (fun hz => absurd hz (show ¬ _ from by decide))
  refine r_aload_n dX10_plants_115 rfl ?_
  refine r_iconst (v := nI 0) dX10_plants_116 (by decide) ?_
  refine r_virtV (c_word_0 m (pSet h ((nI 1 <<< (nI h &&& 31)) ||| nI 0) (pD q)) hM (by simp only [pSet_pl, pWs_pl, pW_pl, pV_pl, pP_pl, pA_pl, pD_pl, hereW, ofW, notW, List.length_cons, List.length_nil]; omega)) lk_X10_514 mc_X10_writesWord dX10_plants_117 (kM_0 hM) (by decide) rfl rfl (Nat.le_of_ble_eq_true rfl) ?_
  change RuZ _ _ _ _ _ _ _ _ _ _ _ _ _ _ _ (gI m (pWs hereW (pSet h ((nI 1 <<< (nI h &&& 31)) ||| nI 0) (pD q))) I) _ _
  refine r_aload_n dX10_plants_120 rfl ?_
  refine r_bipush (v := nI 61) dX10_plants_121 (by decide) ?_
  refine r_virtV (c_w m (pWs hereW (pSet h ((nI 1 <<< (nI h &&& 31)) ||| nI 0) (pD q))) (nI 61) hM (by simp only [pSet_pl, pWs_pl, pW_pl, pV_pl, pP_pl, pA_pl, pD_pl, hereW, ofW, notW, List.length_cons, List.length_nil]; omega)) lk_X10_508 mc_X10_writes dX10_plants_123 (kM_0 hM) (by decide) rfl rfl (Nat.le_of_ble_eq_true rfl) ?_
  refine r_aload_n dX10_plants_126 rfl ?_
  refine r_iload_n dX10_plants_127 rfl ?_
  refine r_virtV (c_v m (pW (nI 61) (pWs hereW (pSet h ((nI 1 <<< (nI h &&& 31)) ||| nI 0) (pD q)))) (h) hM (by simp only [pSet_pl, pWs_pl, pW_pl, pV_pl, pP_pl, pA_pl, pD_pl, hereW, ofW, notW, List.length_cons, List.length_nil]; omega)) lk_X10_535 mc_X10_plantsValue dX10_plants_128 (kM_0 hM) (by decide) rfl rfl (Nat.le_of_ble_eq_true rfl) ?_
  refine r_iload_n dX10_plants_131 rfl ?_
  refine r_iconst (v := (-1)) dX10_plants_132 (by decide) ?_
  refine r_icmp_eq (tgt := 158) dX10_plants_133 (by decide) (fun _ => ?_) (fun hz => absurd (show _ from rfl) hz)
  refine r_iload_n dX10_plants_158 rfl ?_
  refine r_iconst (v := nI 2) dX10_plants_159 (by decide) ?_
  refine r_icmp_ne (tgt := 169) dX10_plants_160 (by decide) (fun _ => ?_) (fun hz => absurd hz (show ¬ _ from by decide))
  refine r_iload dX10_plants_169 rfl ?_
  refine r_iconst (v := (-1)) dX10_plants_171 (by decide) ?_
  refine r_icmp_eq (tgt := 214) dX10_plants_172 (by decide) (fun hz => absurd hz (show ¬ _ from nI_m1 (by omega))) (fun _ => ?_)
  refine r_aload_n dX10_plants_175 rfl ?_
  refine r_iload dX10_plants_176 rfl ?_
  refine r_virtV (c_n m (1 + dv (lcg (pIt q)) % M) (pV h (pW (nI 61) (pWs hereW (pSet h ((nI 1 <<< (nI h &&& 31)) ||| nI 0) (pD q))))) hM (by omega) (by simp only [pSet_pl, pWs_pl, pW_pl, pV_pl, pP_pl, pA_pl, pD_pl, hereW, ofW, notW, List.length_cons, List.length_nil]; omega)) lk_X10_517 mc_X10_writesNumber dX10_plants_178 (kM_0 hM) (by decide) rfl rfl (Nat.le_of_ble_eq_true rfl) ?_
  refine r_aload_n dX10_plants_181 rfl ?_
  refine r_getR dX10_plants_182 fl_X10_32 rfl (kM_0 hM) (pM_10 hM) ?_
  refine r_aload_n dX10_plants_185 rfl ?_
  refine r_getI dX10_plants_186 fl_X10_275 rfl (kM_0 hM) ?_
  rw [gI_Gtp]
  refine r_iconst (v := nI 1) dX10_plants_189 (by decide) ?_
  refine r_iast dX10_plants_190 (aM_10 hM) (nI_in8 1300 (by have z : pTp (pWs (dg (1 + dv (lcg (pIt q)) % M)) (pV h (pW (nI 61) (pWs hereW (pSet h ((nI 1 <<< (nI h &&& 31)) ||| nI 0) (pD q)))))) + 2 < 1300 := (by simp only [pSet_pl, pWs_pl, pW_pl, pV_pl, pP_pl, pA_pl, pD_pl, hereW, ofW, notW, List.length_cons, List.length_nil]; omega); have e9 : ∀ q : PS, G_tp q = pTp q := fun _ => rfl; rw [e9]; omega) (by decide)) (nI_clamp (by have z : pTp (pWs (dg (1 + dv (lcg (pIt q)) % M)) (pV h (pW (nI 61) (pWs hereW (pSet h ((nI 1 <<< (nI h &&& 31)) ||| nI 0) (pD q)))))) + 2 < 1300 := (by simp only [pSet_pl, pWs_pl, pW_pl, pV_pl, pP_pl, pA_pl, pD_pl, hereW, ofW, notW, List.length_cons, List.length_nil]; omega); have e9 : ∀ q : PS, G_tp q = pTp q := fun _ => rfl; rw [e9]; omega)) ?_
  rw [gI_Acd, gI_Wcd]
  refine r_aload_n dX10_plants_191 rfl ?_
  refine r_getR dX10_plants_192 fl_X10_32 rfl (kM_0 hM) (pM_10 hM) ?_
  refine r_aload_n dX10_plants_195 rfl ?_
  refine r_getI dX10_plants_196 fl_X10_275 rfl (kM_0 hM) ?_
  rw [gI_Gtp]
  rw [(S_cd_cd (va_up (G_cd (pWs (dg (1 + dv (lcg (pIt q)) % M)) (pV h (pW (nI 61) (pWs hereW (pSet h ((nI 1 <<< (nI h &&& 31)) ||| nI 0) (pD q))))))) (G_tp (pWs (dg (1 + dv (lcg (pIt q)) % M)) (pV h (pW (nI 61) (pWs hereW (pSet h ((nI 1 <<< (nI h &&& 31)) ||| nI 0) (pD q))))))) (nI 1)) (fun _ => 0) (pWs (dg (1 + dv (lcg (pIt q)) % M)) (pV h (pW (nI 61) (pWs hereW (pSet h ((nI 1 <<< (nI h &&& 31)) ||| nI 0) (pD q))))))).2.2]
  refine r_iconst (v := nI 1) dX10_plants_199 (by decide) ?_
  refine r_iadd dX10_plants_200 ?_
  rw [nI_add]
  refine r_iload dX10_plants_201 rfl ?_
  refine r_iast dX10_plants_203 (aM_10 hM) (nI_in8 1300 (by have z : pTp (pWs (dg (1 + dv (lcg (pIt q)) % M)) (pV h (pW (nI 61) (pWs hereW (pSet h ((nI 1 <<< (nI h &&& 31)) ||| nI 0) (pD q)))))) + 2 < 1300 := (by simp only [pSet_pl, pWs_pl, pW_pl, pV_pl, pP_pl, pA_pl, pD_pl, hereW, ofW, notW, List.length_cons, List.length_nil]; omega); have e9 : ∀ q : PS, G_tp q = pTp q := fun _ => rfl; rw [e9]; omega) (by decide)) (nI_clamp (by have z : pTp (pWs (dg (1 + dv (lcg (pIt q)) % M)) (pV h (pW (nI 61) (pWs hereW (pSet h ((nI 1 <<< (nI h &&& 31)) ||| nI 0) (pD q)))))) + 2 < 1300 := (by simp only [pSet_pl, pWs_pl, pW_pl, pV_pl, pP_pl, pA_pl, pD_pl, hereW, ofW, notW, List.length_cons, List.length_nil]; omega); have e9 : ∀ q : PS, G_tp q = pTp q := fun _ => rfl; rw [e9]; omega)) ?_
  rw [gI_Acd, gI_Wcd]
  rw [(S_cd_cd (va_up (G_cd (pWs (dg (1 + dv (lcg (pIt q)) % M)) (pV h (pW (nI 61) (pWs hereW (pSet h ((nI 1 <<< (nI h &&& 31)) ||| nI 0) (pD q))))))) (G_tp (pWs (dg (1 + dv (lcg (pIt q)) % M)) (pV h (pW (nI 61) (pWs hereW (pSet h ((nI 1 <<< (nI h &&& 31)) ||| nI 0) (pD q))))))) (nI 1)) (fun _ => 0) (pWs (dg (1 + dv (lcg (pIt q)) % M)) (pV h (pW (nI 61) (pWs hereW (pSet h ((nI 1 <<< (nI h &&& 31)) ||| nI 0) (pD q))))))).2.1, (S_cd_cd _ (va_up (G_cd (pWs (dg (1 + dv (lcg (pIt q)) % M)) (pV h (pW (nI 61) (pWs hereW (pSet h ((nI 1 <<< (nI h &&& 31)) ||| nI 0) (pD q))))))) (G_tp (pWs (dg (1 + dv (lcg (pIt q)) % M)) (pV h (pW (nI 61) (pWs hereW (pSet h ((nI 1 <<< (nI h &&& 31)) ||| nI 0) (pD q))))))) (nI 1)) (pWs (dg (1 + dv (lcg (pIt q)) % M)) (pV h (pW (nI 61) (pWs hereW (pSet h ((nI 1 <<< (nI h &&& 31)) ||| nI 0) (pD q))))))).1]
  refine r_aload_n dX10_plants_204 rfl ?_
  refine r_dup dX10_plants_205 rfl ?_
  refine r_getI dX10_plants_206 fl_X10_275 rfl (kM_0 hM) ?_
  rw [gI_Gtp]
  rw [(S_cd_cd (va_up (va_up (G_cd (pWs (dg (1 + dv (lcg (pIt q)) % M)) (pV h (pW (nI 61) (pWs hereW (pSet h ((nI 1 <<< (nI h &&& 31)) ||| nI 0) (pD q))))))) (G_tp (pWs (dg (1 + dv (lcg (pIt q)) % M)) (pV h (pW (nI 61) (pWs hereW (pSet h ((nI 1 <<< (nI h &&& 31)) ||| nI 0) (pD q))))))) (nI 1)) (G_tp (pWs (dg (1 + dv (lcg (pIt q)) % M)) (pV h (pW (nI 61) (pWs hereW (pSet h ((nI 1 <<< (nI h &&& 31)) ||| nI 0) (pD q)))))) + 1) (nI (1 + dv (lcg (pIt q)) % M))) (fun _ => 0) (pWs (dg (1 + dv (lcg (pIt q)) % M)) (pV h (pW (nI 61) (pWs hereW (pSet h ((nI 1 <<< (nI h &&& 31)) ||| nI 0) (pD q))))))).2.2]
  refine r_iconst (v := nI 2) dX10_plants_209 (by decide) ?_
  refine r_iadd dX10_plants_210 ?_
  rw [nI_add]
  refine r_putI dX10_plants_211 fl_X10_275 rfl rfl (kM_0 hM) ?_
  rw [gI_Ptp, pP_raw]
  refine r_iload_n dX10_plants_214 rfl ?_
  refine r_iconst (v := nI 2) dX10_plants_215 (by decide) ?_
  refine r_icmp_ne (tgt := 225) dX10_plants_216 (by decide) (fun _ => ?_) (fun hz => absurd hz (show ¬ _ from by decide))
  refine r_aload_n dX10_plants_225 rfl ?_
  refine r_bipush (v := nI 7) dX10_plants_226 (by decide) ?_
  refine r_virtV (c_a m (pP (1 + dv (lcg (pIt q)) % M) (pWs (dg (1 + dv (lcg (pIt q)) % M)) (pV h (pW (nI 61) (pWs hereW (pSet h ((nI 1 <<< (nI h &&& 31)) ||| nI 0) (pD q))))))) (nI 7) hM (by simp only [pSet_pl, pWs_pl, pW_pl, pV_pl, pP_pl, pA_pl, pD_pl, hereW, ofW, notW, List.length_cons, List.length_nil]; omega)) lk_X10_538 mc_X10_plantsAct dX10_plants_228 (kM_0 hM) (by decide) rfl rfl (Nat.le_of_ble_eq_true rfl) ?_
  refine r_iload_n dX10_plants_231 rfl ?_
  refine r_iconst (v := nI 3) dX10_plants_232 (by decide) ?_
  refine r_icmp_ne (tgt := 241) dX10_plants_233 (by decide) (fun _ => ?_) (fun hz => absurd hz (show ¬ _ from by decide))
  refine r_aload_n dX10_plants_241 rfl ?_
  refine r_iconst (v := nI 0) dX10_plants_242 (by decide) ?_
  refine r_virtV (c_a m (pA (nI 7) (pP (1 + dv (lcg (pIt q)) % M) (pWs (dg (1 + dv (lcg (pIt q)) % M)) (pV h (pW (nI 61) (pWs hereW (pSet h ((nI 1 <<< (nI h &&& 31)) ||| nI 0) (pD q)))))))) (nI 0) hM (by simp only [pSet_pl, pWs_pl, pW_pl, pV_pl, pP_pl, pA_pl, pD_pl, hereW, ofW, notW, List.length_cons, List.length_nil]; omega)) lk_X10_538 mc_X10_plantsAct dX10_plants_243 (kM_0 hM) (by decide) rfl rfl (Nat.le_of_ble_eq_true rfl) ?_
  refine r_aload_n dX10_plants_246 rfl ?_
  refine r_getR dX10_plants_247 fl_X10_41 rfl (kM_0 hM) (pM_13 hM) ?_
  refine r_iload_n dX10_plants_250 rfl ?_
  refine r_aload_n dX10_plants_251 rfl ?_
  refine r_getI dX10_plants_252 fl_X10_505 rfl (kM_0 hM) ?_
  rw [gI_Gpl]
  refine r_iast dX10_plants_255 (aM_13 hM) (nI_in8 8 (by omega) (by decide)) (nI_clamp (by omega)) ?_
  rw [gI_Att, gI_Wtt]
  refine r_vret rfl dX10_plants_256 ?_
  exact am_is.mk

set_option maxHeartbeats 4000000 in
set_option maxRecDepth 100000 in
theorem c_pl2 (m h : Nat) (q : PS) {n : Nat} {kd : mK} {I : mI} {J : mJ} {P : mP} (hM : kM kd P m) (hh : h < 8) (ht : pTp q + 20 < 1300) (hp : pPl q + 40 < 1100) (hh0 : 0 < h) : Ct yX10_plants cX10_plants 5 none 4 0 0 [.ref m, .int (nI h), .int (nI 2)] n kd (gI m q I) J P (am_is none n kd (gI m (pl2 h (dv (lcg (pIt q)) % h) (dv (lcg (lcg (pIt q))) % 4) (pD (pD q))) I) J P) := by
  have a1 := Nat.mod_lt (dv (lcg (pIt q))) hh0
  have a2 := Nat.mod_lt (dv (lcg (lcg (pIt q)))) (show 0 < 4 by omega)
  have l1 := dg_len (dv (lcg (pIt q)) % h)
  have l2 := dg_len (dv (lcg (lcg (pIt q))) % 4)
  refine ct_of 2 (by decide +kernel) (Nat.le_of_ble_eq_true rfl) rfl ?_
  refine r_iload_n dX10_plants_0 rfl ?_
  refine r_iconst (v := nI 1) dX10_plants_1 (by decide) ?_
  refine r_icmp_ne (tgt := 9) dX10_plants_2 (by decide) (fun _ => ?_) (fun hz => absurd hz (show ¬ _ from by decide))
  refine r_aload_n dX10_plants_9 rfl ?_
  refine r_iload_n dX10_plants_10 rfl ?_
  refine r_virtE (c_d m (q) (h) hM (hh0) (by omega)) lk_X10_532 mc_X10_draw dX10_plants_11 (kM_0 hM) (by decide) rfl rfl (Nat.le_of_ble_eq_true rfl) ?_
  refine r_istore_n dX10_plants_14 (by decide) ?_
  refine r_iload_n dX10_plants_15 rfl ?_
  refine r_iconst (v := nI 1) dX10_plants_16 (by decide) ?_
  refine r_icmp_ne (tgt := 33) dX10_plants_17 (by decide) (fun _ => ?_) (fun hz => absurd hz (show ¬ _ from by decide))
  refine r_iload_n dX10_plants_33 rfl ?_
  refine r_iconst (v := nI 2) dX10_plants_34 (by decide) ?_
  refine r_icmp_ne (tgt := 46) dX10_plants_35 (by decide) (fun hz => absurd (show _ from rfl) hz) (fun _ => ?_)
  refine r_aload_n dX10_plants_38 rfl ?_
  refine r_iconst (v := nI 4) dX10_plants_39 (by decide) ?_
  refine r_virtE (c_d m (pD q) (4) hM (by decide) (by omega)) lk_X10_532 mc_X10_draw dX10_plants_40 (kM_0 hM) (by decide) rfl rfl (Nat.le_of_ble_eq_true rfl) ?_
  rw [(pD_pl q).2.2]
  refine r_goto (tgt := 47) dX10_plants_43 (by decide) ?_
  refine r_istore dX10_plants_47 (by decide) ?_
  refine r_aload_n dX10_plants_49 rfl ?_
  refine r_getR dX10_plants_50 fl_X10_20 rfl (kM_0 hM) (pM_6 hM) ?_
  refine r_iload_n dX10_plants_53 rfl ?_
  refine r_iconst (v := nI 1) dX10_plants_54 (by decide) ?_
  refine r_iast dX10_plants_55 (aM_6 hM) (nI_in8 8 (by omega) (by decide)) (nI_clamp (by omega)) ?_
  rw [gI_Ari, gI_Wri]
  refine r_aload_n dX10_plants_56 rfl ?_
  refine r_getR dX10_plants_57 fl_X10_26 rfl (kM_0 hM) (pM_8 hM) ?_
  refine r_iload_n dX10_plants_60 rfl ?_
  refine r_aload_n dX10_plants_61 rfl ?_
  refine r_getI dX10_plants_62 fl_X10_275 rfl (kM_0 hM) ?_
  rw [gI_Gtp]
  refine r_iast dX10_plants_65 (aM_8 hM) (nI_in8 8 (by omega) (by decide)) (nI_clamp (by omega)) ?_
  rw [gI_Ara, gI_Wra]
  refine r_aload_n dX10_plants_66 rfl ?_
  refine r_getR dX10_plants_67 fl_X10_29 rfl (kM_0 hM) (pM_9 hM) ?_
  refine r_iload_n dX10_plants_70 rfl ?_
  refine r_iconst (v := nI 1) dX10_plants_71 (by decide) ?_
  refine r_iload_n dX10_plants_72 rfl ?_
  refine r_ishl dX10_plants_73 ?_
  refine r_iload_n dX10_plants_74 rfl ?_
  refine r_iconst (v := (-1)) dX10_plants_75 (by decide) ?_
  refine r_icmp_ne (tgt := 83) dX10_plants_76 (by decide) (fun _ => ?_) (fun hz => absurd hz (show ¬ _ from nI_m1 (by omega)))
  refine r_iconst (v := nI 1) dX10_plants_83 (by decide) ?_
  refine r_iload_n dX10_plants_84 rfl ?_
  refine r_ishl dX10_plants_85 ?_
  refine r_ior dX10_plants_86 ?_
  refine r_iast dX10_plants_87 (aM_9 hM) (nI_in8 8 (by omega) (by decide)) (nI_clamp (by omega)) ?_
  rw [gI_Alk, gI_Wlk]
  refine r_aload_n dX10_plants_88 rfl ?_
  refine r_getR dX10_plants_89 fl_X10_38 rfl (kM_0 hM) (pM_12 hM) ?_
  refine r_iload_n dX10_plants_92 rfl ?_
  refine r_aload_n dX10_plants_93 rfl ?_
  refine r_getI dX10_plants_94 fl_X10_505 rfl (kM_0 hM) ?_
  rw [gI_Gpl]
  refine r_iast dX10_plants_97 (aM_12 hM) (nI_in8 8 (by omega) (by decide)) (nI_clamp (by omega)) ?_
  rw [gI_Atf, gI_Wtf]
  change RuZ _ _ _ _ _ _ _ _ _ _ _ _ _ _ _ (gI m (pSet h ((nI 1 <<< (nI h &&& 31)) ||| (nI 1 <<< (nI (dv (lcg (pIt q)) % h) &&& 31))) (pD (pD q))) I) _ _
  refine r_iload_n dX10_plants_98 rfl ?_
  refine r_iconst (v := nI 3) dX10_plants_99 (by decide) ?_
  refine r_icmp_ne (tgt := 115) dX10_plants_100 (by decide) (fun _ => ?_) (fun hz => absurd hz (show ¬ _ from by decide))
  refine r_aload_n dX10_plants_115 rfl ?_
  refine r_iconst (v := nI 0) dX10_plants_116 (by decide) ?_
  refine r_virtV (c_word_0 m (pSet h ((nI 1 <<< (nI h &&& 31)) ||| (nI 1 <<< (nI (dv (lcg (pIt q)) % h) &&& 31))) (pD (pD q))) hM (by simp only [pSet_pl, pWs_pl, pW_pl, pV_pl, pP_pl, pA_pl, pD_pl, hereW, ofW, notW, List.length_cons, List.length_nil]; omega)) lk_X10_514 mc_X10_writesWord dX10_plants_117 (kM_0 hM) (by decide) rfl rfl (Nat.le_of_ble_eq_true rfl) ?_
  change RuZ _ _ _ _ _ _ _ _ _ _ _ _ _ _ _ (gI m (pWs hereW (pSet h ((nI 1 <<< (nI h &&& 31)) ||| (nI 1 <<< (nI (dv (lcg (pIt q)) % h) &&& 31))) (pD (pD q)))) I) _ _
  refine r_aload_n dX10_plants_120 rfl ?_
  refine r_bipush (v := nI 61) dX10_plants_121 (by decide) ?_
  refine r_virtV (c_w m (pWs hereW (pSet h ((nI 1 <<< (nI h &&& 31)) ||| (nI 1 <<< (nI (dv (lcg (pIt q)) % h) &&& 31))) (pD (pD q)))) (nI 61) hM (by simp only [pSet_pl, pWs_pl, pW_pl, pV_pl, pP_pl, pA_pl, pD_pl, hereW, ofW, notW, List.length_cons, List.length_nil]; omega)) lk_X10_508 mc_X10_writes dX10_plants_123 (kM_0 hM) (by decide) rfl rfl (Nat.le_of_ble_eq_true rfl) ?_
  refine r_aload_n dX10_plants_126 rfl ?_
  refine r_iload_n dX10_plants_127 rfl ?_
  refine r_virtV (c_v m (pW (nI 61) (pWs hereW (pSet h ((nI 1 <<< (nI h &&& 31)) ||| (nI 1 <<< (nI (dv (lcg (pIt q)) % h) &&& 31))) (pD (pD q))))) (h) hM (by simp only [pSet_pl, pWs_pl, pW_pl, pV_pl, pP_pl, pA_pl, pD_pl, hereW, ofW, notW, List.length_cons, List.length_nil]; omega)) lk_X10_535 mc_X10_plantsValue dX10_plants_128 (kM_0 hM) (by decide) rfl rfl (Nat.le_of_ble_eq_true rfl) ?_
  refine r_iload_n dX10_plants_131 rfl ?_
  refine r_iconst (v := (-1)) dX10_plants_132 (by decide) ?_
  refine r_icmp_eq (tgt := 158) dX10_plants_133 (by decide) (fun hz => absurd hz (show ¬ _ from nI_m1 (by omega))) (fun _ => ?_)
  refine r_aload_n dX10_plants_136 rfl ?_
  refine r_bipush (v := nI 6) dX10_plants_137 (by decide) ?_
  refine r_virtV (c_word_6 m (pV h (pW (nI 61) (pWs hereW (pSet h ((nI 1 <<< (nI h &&& 31)) ||| (nI 1 <<< (nI (dv (lcg (pIt q)) % h) &&& 31))) (pD (pD q)))))) hM (by simp only [pSet_pl, pWs_pl, pW_pl, pV_pl, pP_pl, pA_pl, pD_pl, hereW, ofW, notW, List.length_cons, List.length_nil]; omega)) lk_X10_514 mc_X10_writesWord dX10_plants_139 (kM_0 hM) (by decide) rfl rfl (Nat.le_of_ble_eq_true rfl) ?_
  change RuZ _ _ _ _ _ _ _ _ _ _ _ _ _ _ _ (gI m (pWs ofW (pV h (pW (nI 61) (pWs hereW (pSet h ((nI 1 <<< (nI h &&& 31)) ||| (nI 1 <<< (nI (dv (lcg (pIt q)) % h) &&& 31))) (pD (pD q))))))) I) _ _
  refine r_aload_n dX10_plants_142 rfl ?_
  refine r_bipush (v := nI 32) dX10_plants_143 (by decide) ?_
  refine r_virtV (c_w m (pWs ofW (pV h (pW (nI 61) (pWs hereW (pSet h ((nI 1 <<< (nI h &&& 31)) ||| (nI 1 <<< (nI (dv (lcg (pIt q)) % h) &&& 31))) (pD (pD q))))))) (nI 32) hM (by simp only [pSet_pl, pWs_pl, pW_pl, pV_pl, pP_pl, pA_pl, pD_pl, hereW, ofW, notW, List.length_cons, List.length_nil]; omega)) lk_X10_508 mc_X10_writes dX10_plants_145 (kM_0 hM) (by decide) rfl rfl (Nat.le_of_ble_eq_true rfl) ?_
  refine r_aload_n dX10_plants_148 rfl ?_
  refine r_iload_n dX10_plants_149 rfl ?_
  refine r_virtV (c_n m (dv (lcg (pIt q)) % h) (pW (nI 32) (pWs ofW (pV h (pW (nI 61) (pWs hereW (pSet h ((nI 1 <<< (nI h &&& 31)) ||| (nI 1 <<< (nI (dv (lcg (pIt q)) % h) &&& 31))) (pD (pD q)))))))) hM (by omega) (by simp only [pSet_pl, pWs_pl, pW_pl, pV_pl, pP_pl, pA_pl, pD_pl, hereW, ofW, notW, List.length_cons, List.length_nil]; omega)) lk_X10_517 mc_X10_writesNumber dX10_plants_150 (kM_0 hM) (by decide) rfl rfl (Nat.le_of_ble_eq_true rfl) ?_
  refine r_aload_n dX10_plants_153 rfl ?_
  refine r_iload_n dX10_plants_154 rfl ?_
  refine r_virtV (c_v m (pWs (dg (dv (lcg (pIt q)) % h)) (pW (nI 32) (pWs ofW (pV h (pW (nI 61) (pWs hereW (pSet h ((nI 1 <<< (nI h &&& 31)) ||| (nI 1 <<< (nI (dv (lcg (pIt q)) % h) &&& 31))) (pD (pD q))))))))) (dv (lcg (pIt q)) % h) hM (by simp only [pSet_pl, pWs_pl, pW_pl, pV_pl, pP_pl, pA_pl, pD_pl, hereW, ofW, notW, List.length_cons, List.length_nil]; omega)) lk_X10_535 mc_X10_plantsValue dX10_plants_155 (kM_0 hM) (by decide) rfl rfl (Nat.le_of_ble_eq_true rfl) ?_
  refine r_iload_n dX10_plants_158 rfl ?_
  refine r_iconst (v := nI 2) dX10_plants_159 (by decide) ?_
  refine r_icmp_ne (tgt := 169) dX10_plants_160 (by decide) (fun hz => absurd (show _ from rfl) hz) (fun _ => ?_)
  refine r_aload_n dX10_plants_163 rfl ?_
  refine r_bipush (v := nI 43) dX10_plants_164 (by decide) ?_
  refine r_virtV (c_w m (pV (dv (lcg (pIt q)) % h) (pWs (dg (dv (lcg (pIt q)) % h)) (pW (nI 32) (pWs ofW (pV h (pW (nI 61) (pWs hereW (pSet h ((nI 1 <<< (nI h &&& 31)) ||| (nI 1 <<< (nI (dv (lcg (pIt q)) % h) &&& 31))) (pD (pD q)))))))))) (nI 43) hM (by simp only [pSet_pl, pWs_pl, pW_pl, pV_pl, pP_pl, pA_pl, pD_pl, hereW, ofW, notW, List.length_cons, List.length_nil]; omega)) lk_X10_508 mc_X10_writes dX10_plants_166 (kM_0 hM) (by decide) rfl rfl (Nat.le_of_ble_eq_true rfl) ?_
  refine r_iload dX10_plants_169 rfl ?_
  refine r_iconst (v := (-1)) dX10_plants_171 (by decide) ?_
  refine r_icmp_eq (tgt := 214) dX10_plants_172 (by decide) (fun hz => absurd hz (show ¬ _ from nI_m1 (by omega))) (fun _ => ?_)
  refine r_aload_n dX10_plants_175 rfl ?_
  refine r_iload dX10_plants_176 rfl ?_
  refine r_virtV (c_n m (dv (lcg (lcg (pIt q))) % 4) (pW (nI 43) (pV (dv (lcg (pIt q)) % h) (pWs (dg (dv (lcg (pIt q)) % h)) (pW (nI 32) (pWs ofW (pV h (pW (nI 61) (pWs hereW (pSet h ((nI 1 <<< (nI h &&& 31)) ||| (nI 1 <<< (nI (dv (lcg (pIt q)) % h) &&& 31))) (pD (pD q))))))))))) hM (by omega) (by simp only [pSet_pl, pWs_pl, pW_pl, pV_pl, pP_pl, pA_pl, pD_pl, hereW, ofW, notW, List.length_cons, List.length_nil]; omega)) lk_X10_517 mc_X10_writesNumber dX10_plants_178 (kM_0 hM) (by decide) rfl rfl (Nat.le_of_ble_eq_true rfl) ?_
  refine r_aload_n dX10_plants_181 rfl ?_
  refine r_getR dX10_plants_182 fl_X10_32 rfl (kM_0 hM) (pM_10 hM) ?_
  refine r_aload_n dX10_plants_185 rfl ?_
  refine r_getI dX10_plants_186 fl_X10_275 rfl (kM_0 hM) ?_
  rw [gI_Gtp]
  refine r_iconst (v := nI 1) dX10_plants_189 (by decide) ?_
  refine r_iast dX10_plants_190 (aM_10 hM) (nI_in8 1300 (by have z : pTp (pWs (dg (dv (lcg (lcg (pIt q))) % 4)) (pW (nI 43) (pV (dv (lcg (pIt q)) % h) (pWs (dg (dv (lcg (pIt q)) % h)) (pW (nI 32) (pWs ofW (pV h (pW (nI 61) (pWs hereW (pSet h ((nI 1 <<< (nI h &&& 31)) ||| (nI 1 <<< (nI (dv (lcg (pIt q)) % h) &&& 31))) (pD (pD q)))))))))))) + 2 < 1300 := (by simp only [pSet_pl, pWs_pl, pW_pl, pV_pl, pP_pl, pA_pl, pD_pl, hereW, ofW, notW, List.length_cons, List.length_nil]; omega); have e9 : ∀ q : PS, G_tp q = pTp q := fun _ => rfl; rw [e9]; omega) (by decide)) (nI_clamp (by have z : pTp (pWs (dg (dv (lcg (lcg (pIt q))) % 4)) (pW (nI 43) (pV (dv (lcg (pIt q)) % h) (pWs (dg (dv (lcg (pIt q)) % h)) (pW (nI 32) (pWs ofW (pV h (pW (nI 61) (pWs hereW (pSet h ((nI 1 <<< (nI h &&& 31)) ||| (nI 1 <<< (nI (dv (lcg (pIt q)) % h) &&& 31))) (pD (pD q)))))))))))) + 2 < 1300 := (by simp only [pSet_pl, pWs_pl, pW_pl, pV_pl, pP_pl, pA_pl, pD_pl, hereW, ofW, notW, List.length_cons, List.length_nil]; omega); have e9 : ∀ q : PS, G_tp q = pTp q := fun _ => rfl; rw [e9]; omega)) ?_
  rw [gI_Acd, gI_Wcd]
  refine r_aload_n dX10_plants_191 rfl ?_
  refine r_getR dX10_plants_192 fl_X10_32 rfl (kM_0 hM) (pM_10 hM) ?_
  refine r_aload_n dX10_plants_195 rfl ?_
  refine r_getI dX10_plants_196 fl_X10_275 rfl (kM_0 hM) ?_
  rw [gI_Gtp]
  rw [(S_cd_cd (va_up (G_cd (pWs (dg (dv (lcg (lcg (pIt q))) % 4)) (pW (nI 43) (pV (dv (lcg (pIt q)) % h) (pWs (dg (dv (lcg (pIt q)) % h)) (pW (nI 32) (pWs ofW (pV h (pW (nI 61) (pWs hereW (pSet h ((nI 1 <<< (nI h &&& 31)) ||| (nI 1 <<< (nI (dv (lcg (pIt q)) % h) &&& 31))) (pD (pD q))))))))))))) (G_tp (pWs (dg (dv (lcg (lcg (pIt q))) % 4)) (pW (nI 43) (pV (dv (lcg (pIt q)) % h) (pWs (dg (dv (lcg (pIt q)) % h)) (pW (nI 32) (pWs ofW (pV h (pW (nI 61) (pWs hereW (pSet h ((nI 1 <<< (nI h &&& 31)) ||| (nI 1 <<< (nI (dv (lcg (pIt q)) % h) &&& 31))) (pD (pD q))))))))))))) (nI 1)) (fun _ => 0) (pWs (dg (dv (lcg (lcg (pIt q))) % 4)) (pW (nI 43) (pV (dv (lcg (pIt q)) % h) (pWs (dg (dv (lcg (pIt q)) % h)) (pW (nI 32) (pWs ofW (pV h (pW (nI 61) (pWs hereW (pSet h ((nI 1 <<< (nI h &&& 31)) ||| (nI 1 <<< (nI (dv (lcg (pIt q)) % h) &&& 31))) (pD (pD q))))))))))))).2.2]
  refine r_iconst (v := nI 1) dX10_plants_199 (by decide) ?_
  refine r_iadd dX10_plants_200 ?_
  rw [nI_add]
  refine r_iload dX10_plants_201 rfl ?_
  refine r_iast dX10_plants_203 (aM_10 hM) (nI_in8 1300 (by have z : pTp (pWs (dg (dv (lcg (lcg (pIt q))) % 4)) (pW (nI 43) (pV (dv (lcg (pIt q)) % h) (pWs (dg (dv (lcg (pIt q)) % h)) (pW (nI 32) (pWs ofW (pV h (pW (nI 61) (pWs hereW (pSet h ((nI 1 <<< (nI h &&& 31)) ||| (nI 1 <<< (nI (dv (lcg (pIt q)) % h) &&& 31))) (pD (pD q)))))))))))) + 2 < 1300 := (by simp only [pSet_pl, pWs_pl, pW_pl, pV_pl, pP_pl, pA_pl, pD_pl, hereW, ofW, notW, List.length_cons, List.length_nil]; omega); have e9 : ∀ q : PS, G_tp q = pTp q := fun _ => rfl; rw [e9]; omega) (by decide)) (nI_clamp (by have z : pTp (pWs (dg (dv (lcg (lcg (pIt q))) % 4)) (pW (nI 43) (pV (dv (lcg (pIt q)) % h) (pWs (dg (dv (lcg (pIt q)) % h)) (pW (nI 32) (pWs ofW (pV h (pW (nI 61) (pWs hereW (pSet h ((nI 1 <<< (nI h &&& 31)) ||| (nI 1 <<< (nI (dv (lcg (pIt q)) % h) &&& 31))) (pD (pD q)))))))))))) + 2 < 1300 := (by simp only [pSet_pl, pWs_pl, pW_pl, pV_pl, pP_pl, pA_pl, pD_pl, hereW, ofW, notW, List.length_cons, List.length_nil]; omega); have e9 : ∀ q : PS, G_tp q = pTp q := fun _ => rfl; rw [e9]; omega)) ?_
  rw [gI_Acd, gI_Wcd]
  rw [(S_cd_cd (va_up (G_cd (pWs (dg (dv (lcg (lcg (pIt q))) % 4)) (pW (nI 43) (pV (dv (lcg (pIt q)) % h) (pWs (dg (dv (lcg (pIt q)) % h)) (pW (nI 32) (pWs ofW (pV h (pW (nI 61) (pWs hereW (pSet h ((nI 1 <<< (nI h &&& 31)) ||| (nI 1 <<< (nI (dv (lcg (pIt q)) % h) &&& 31))) (pD (pD q))))))))))))) (G_tp (pWs (dg (dv (lcg (lcg (pIt q))) % 4)) (pW (nI 43) (pV (dv (lcg (pIt q)) % h) (pWs (dg (dv (lcg (pIt q)) % h)) (pW (nI 32) (pWs ofW (pV h (pW (nI 61) (pWs hereW (pSet h ((nI 1 <<< (nI h &&& 31)) ||| (nI 1 <<< (nI (dv (lcg (pIt q)) % h) &&& 31))) (pD (pD q))))))))))))) (nI 1)) (fun _ => 0) (pWs (dg (dv (lcg (lcg (pIt q))) % 4)) (pW (nI 43) (pV (dv (lcg (pIt q)) % h) (pWs (dg (dv (lcg (pIt q)) % h)) (pW (nI 32) (pWs ofW (pV h (pW (nI 61) (pWs hereW (pSet h ((nI 1 <<< (nI h &&& 31)) ||| (nI 1 <<< (nI (dv (lcg (pIt q)) % h) &&& 31))) (pD (pD q))))))))))))).2.1, (S_cd_cd _ (va_up (G_cd (pWs (dg (dv (lcg (lcg (pIt q))) % 4)) (pW (nI 43) (pV (dv (lcg (pIt q)) % h) (pWs (dg (dv (lcg (pIt q)) % h)) (pW (nI 32) (pWs ofW (pV h (pW (nI 61) (pWs hereW (pSet h ((nI 1 <<< (nI h &&& 31)) ||| (nI 1 <<< (nI (dv (lcg (pIt q)) % h) &&& 31))) (pD (pD q))))))))))))) (G_tp (pWs (dg (dv (lcg (lcg (pIt q))) % 4)) (pW (nI 43) (pV (dv (lcg (pIt q)) % h) (pWs (dg (dv (lcg (pIt q)) % h)) (pW (nI 32) (pWs ofW (pV h (pW (nI 61) (pWs hereW (pSet h ((nI 1 <<< (nI h &&& 31)) ||| (nI 1 <<< (nI (dv (lcg (pIt q)) % h) &&& 31))) (pD (pD q))))))))))))) (nI 1)) (pWs (dg (dv (lcg (lcg (pIt q))) % 4)) (pW (nI 43) (pV (dv (lcg (pIt q)) % h) (pWs (dg (dv (lcg (pIt q)) % h)) (pW (nI 32) (pWs ofW (pV h (pW (nI 61) (pWs hereW (pSet h ((nI 1 <<< (nI h &&& 31)) ||| (nI 1 <<< (nI (dv (lcg (pIt q)) % h) &&& 31))) (pD (pD q))))))))))))).1]
  refine r_aload_n dX10_plants_204 rfl ?_
  refine r_dup dX10_plants_205 rfl ?_
  refine r_getI dX10_plants_206 fl_X10_275 rfl (kM_0 hM) ?_
  rw [gI_Gtp]
  rw [(S_cd_cd (va_up (va_up (G_cd (pWs (dg (dv (lcg (lcg (pIt q))) % 4)) (pW (nI 43) (pV (dv (lcg (pIt q)) % h) (pWs (dg (dv (lcg (pIt q)) % h)) (pW (nI 32) (pWs ofW (pV h (pW (nI 61) (pWs hereW (pSet h ((nI 1 <<< (nI h &&& 31)) ||| (nI 1 <<< (nI (dv (lcg (pIt q)) % h) &&& 31))) (pD (pD q))))))))))))) (G_tp (pWs (dg (dv (lcg (lcg (pIt q))) % 4)) (pW (nI 43) (pV (dv (lcg (pIt q)) % h) (pWs (dg (dv (lcg (pIt q)) % h)) (pW (nI 32) (pWs ofW (pV h (pW (nI 61) (pWs hereW (pSet h ((nI 1 <<< (nI h &&& 31)) ||| (nI 1 <<< (nI (dv (lcg (pIt q)) % h) &&& 31))) (pD (pD q))))))))))))) (nI 1)) (G_tp (pWs (dg (dv (lcg (lcg (pIt q))) % 4)) (pW (nI 43) (pV (dv (lcg (pIt q)) % h) (pWs (dg (dv (lcg (pIt q)) % h)) (pW (nI 32) (pWs ofW (pV h (pW (nI 61) (pWs hereW (pSet h ((nI 1 <<< (nI h &&& 31)) ||| (nI 1 <<< (nI (dv (lcg (pIt q)) % h) &&& 31))) (pD (pD q)))))))))))) + 1) (nI (dv (lcg (lcg (pIt q))) % 4))) (fun _ => 0) (pWs (dg (dv (lcg (lcg (pIt q))) % 4)) (pW (nI 43) (pV (dv (lcg (pIt q)) % h) (pWs (dg (dv (lcg (pIt q)) % h)) (pW (nI 32) (pWs ofW (pV h (pW (nI 61) (pWs hereW (pSet h ((nI 1 <<< (nI h &&& 31)) ||| (nI 1 <<< (nI (dv (lcg (pIt q)) % h) &&& 31))) (pD (pD q))))))))))))).2.2]
  refine r_iconst (v := nI 2) dX10_plants_209 (by decide) ?_
  refine r_iadd dX10_plants_210 ?_
  rw [nI_add]
  refine r_putI dX10_plants_211 fl_X10_275 rfl rfl (kM_0 hM) ?_
  rw [gI_Ptp, pP_raw]
  refine r_iload_n dX10_plants_214 rfl ?_
  refine r_iconst (v := nI 2) dX10_plants_215 (by decide) ?_
  refine r_icmp_ne (tgt := 225) dX10_plants_216 (by decide) (fun hz => absurd (show _ from rfl) hz) (fun _ => ?_)
  refine r_aload_n dX10_plants_219 rfl ?_
  refine r_bipush (v := nI 8) dX10_plants_220 (by decide) ?_
  refine r_virtV (c_a m (pP (dv (lcg (lcg (pIt q))) % 4) (pWs (dg (dv (lcg (lcg (pIt q))) % 4)) (pW (nI 43) (pV (dv (lcg (pIt q)) % h) (pWs (dg (dv (lcg (pIt q)) % h)) (pW (nI 32) (pWs ofW (pV h (pW (nI 61) (pWs hereW (pSet h ((nI 1 <<< (nI h &&& 31)) ||| (nI 1 <<< (nI (dv (lcg (pIt q)) % h) &&& 31))) (pD (pD q))))))))))))) (nI 8) hM (by simp only [pSet_pl, pWs_pl, pW_pl, pV_pl, pP_pl, pA_pl, pD_pl, hereW, ofW, notW, List.length_cons, List.length_nil]; omega)) lk_X10_538 mc_X10_plantsAct dX10_plants_222 (kM_0 hM) (by decide) rfl rfl (Nat.le_of_ble_eq_true rfl) ?_
  refine r_aload_n dX10_plants_225 rfl ?_
  refine r_bipush (v := nI 7) dX10_plants_226 (by decide) ?_
  refine r_virtV (c_a m (pA (nI 8) (pP (dv (lcg (lcg (pIt q))) % 4) (pWs (dg (dv (lcg (lcg (pIt q))) % 4)) (pW (nI 43) (pV (dv (lcg (pIt q)) % h) (pWs (dg (dv (lcg (pIt q)) % h)) (pW (nI 32) (pWs ofW (pV h (pW (nI 61) (pWs hereW (pSet h ((nI 1 <<< (nI h &&& 31)) ||| (nI 1 <<< (nI (dv (lcg (pIt q)) % h) &&& 31))) (pD (pD q)))))))))))))) (nI 7) hM (by simp only [pSet_pl, pWs_pl, pW_pl, pV_pl, pP_pl, pA_pl, pD_pl, hereW, ofW, notW, List.length_cons, List.length_nil]; omega)) lk_X10_538 mc_X10_plantsAct dX10_plants_228 (kM_0 hM) (by decide) rfl rfl (Nat.le_of_ble_eq_true rfl) ?_
  refine r_iload_n dX10_plants_231 rfl ?_
  refine r_iconst (v := nI 3) dX10_plants_232 (by decide) ?_
  refine r_icmp_ne (tgt := 241) dX10_plants_233 (by decide) (fun _ => ?_) (fun hz => absurd hz (show ¬ _ from by decide))
  refine r_aload_n dX10_plants_241 rfl ?_
  refine r_iconst (v := nI 0) dX10_plants_242 (by decide) ?_
  refine r_virtV (c_a m (pA (nI 7) (pA (nI 8) (pP (dv (lcg (lcg (pIt q))) % 4) (pWs (dg (dv (lcg (lcg (pIt q))) % 4)) (pW (nI 43) (pV (dv (lcg (pIt q)) % h) (pWs (dg (dv (lcg (pIt q)) % h)) (pW (nI 32) (pWs ofW (pV h (pW (nI 61) (pWs hereW (pSet h ((nI 1 <<< (nI h &&& 31)) ||| (nI 1 <<< (nI (dv (lcg (pIt q)) % h) &&& 31))) (pD (pD q))))))))))))))) (nI 0) hM (by simp only [pSet_pl, pWs_pl, pW_pl, pV_pl, pP_pl, pA_pl, pD_pl, hereW, ofW, notW, List.length_cons, List.length_nil]; omega)) lk_X10_538 mc_X10_plantsAct dX10_plants_243 (kM_0 hM) (by decide) rfl rfl (Nat.le_of_ble_eq_true rfl) ?_
  refine r_aload_n dX10_plants_246 rfl ?_
  refine r_getR dX10_plants_247 fl_X10_41 rfl (kM_0 hM) (pM_13 hM) ?_
  refine r_iload_n dX10_plants_250 rfl ?_
  refine r_aload_n dX10_plants_251 rfl ?_
  refine r_getI dX10_plants_252 fl_X10_505 rfl (kM_0 hM) ?_
  rw [gI_Gpl]
  refine r_iast dX10_plants_255 (aM_13 hM) (nI_in8 8 (by omega) (by decide)) (nI_clamp (by omega)) ?_
  rw [gI_Att, gI_Wtt]
  refine r_vret rfl dX10_plants_256 ?_
  exact am_is.mk

set_option maxHeartbeats 4000000 in
set_option maxRecDepth 100000 in
theorem c_pl3 (m h : Nat) (q : PS) {n : Nat} {kd : mK} {I : mI} {J : mJ} {P : mP} (hM : kM kd P m) (hh : h < 8) (ht : pTp q + 20 < 1300) (hp : pPl q + 40 < 1100) (hh0 : 0 < h) : Ct yX10_plants cX10_plants 5 none 4 0 0 [.ref m, .int (nI h), .int (nI 3)] n kd (gI m q I) J P (am_is none n kd (gI m (pl3 h (dv (lcg (pIt q)) % h) (pD q)) I) J P) := by
  have a1 := Nat.mod_lt (dv (lcg (pIt q))) hh0
  have l1 := dg_len (dv (lcg (pIt q)) % h)
  refine ct_of 2 (by decide +kernel) (Nat.le_of_ble_eq_true rfl) rfl ?_
  refine r_iload_n dX10_plants_0 rfl ?_
  refine r_iconst (v := nI 1) dX10_plants_1 (by decide) ?_
  refine r_icmp_ne (tgt := 9) dX10_plants_2 (by decide) (fun _ => ?_) (fun hz => absurd hz (show ¬ _ from by decide))
  refine r_aload_n dX10_plants_9 rfl ?_
  refine r_iload_n dX10_plants_10 rfl ?_
  refine r_virtE (c_d m (q) (h) hM (hh0) (by omega)) lk_X10_532 mc_X10_draw dX10_plants_11 (kM_0 hM) (by decide) rfl rfl (Nat.le_of_ble_eq_true rfl) ?_
  refine r_istore_n dX10_plants_14 (by decide) ?_
  refine r_iload_n dX10_plants_15 rfl ?_
  refine r_iconst (v := nI 1) dX10_plants_16 (by decide) ?_
  refine r_icmp_ne (tgt := 33) dX10_plants_17 (by decide) (fun _ => ?_) (fun hz => absurd hz (show ¬ _ from by decide))
  refine r_iload_n dX10_plants_33 rfl ?_
  refine r_iconst (v := nI 2) dX10_plants_34 (by decide) ?_
  refine r_icmp_ne (tgt := 46) dX10_plants_35 (by decide) (fun _ => ?_) (fun hz => absurd hz (show ¬ _ from by decide))
  refine r_iconst (v := (-1)) dX10_plants_46 (by decide) ?_
  refine r_istore dX10_plants_47 (by decide) ?_
  refine r_aload_n dX10_plants_49 rfl ?_
  refine r_getR dX10_plants_50 fl_X10_20 rfl (kM_0 hM) (pM_6 hM) ?_
  refine r_iload_n dX10_plants_53 rfl ?_
  refine r_iconst (v := nI 1) dX10_plants_54 (by decide) ?_
  refine r_iast dX10_plants_55 (aM_6 hM) (nI_in8 8 (by omega) (by decide)) (nI_clamp (by omega)) ?_
  rw [gI_Ari, gI_Wri]
  refine r_aload_n dX10_plants_56 rfl ?_
  refine r_getR dX10_plants_57 fl_X10_26 rfl (kM_0 hM) (pM_8 hM) ?_
  refine r_iload_n dX10_plants_60 rfl ?_
  refine r_aload_n dX10_plants_61 rfl ?_
  refine r_getI dX10_plants_62 fl_X10_275 rfl (kM_0 hM) ?_
  rw [gI_Gtp]
  refine r_iast dX10_plants_65 (aM_8 hM) (nI_in8 8 (by omega) (by decide)) (nI_clamp (by omega)) ?_
  rw [gI_Ara, gI_Wra]
  refine r_aload_n dX10_plants_66 rfl ?_
  refine r_getR dX10_plants_67 fl_X10_29 rfl (kM_0 hM) (pM_9 hM) ?_
  refine r_iload_n dX10_plants_70 rfl ?_
  refine r_iconst (v := nI 1) dX10_plants_71 (by decide) ?_
  refine r_iload_n dX10_plants_72 rfl ?_
  refine r_ishl dX10_plants_73 ?_
  refine r_iload_n dX10_plants_74 rfl ?_
  refine r_iconst (v := (-1)) dX10_plants_75 (by decide) ?_
  refine r_icmp_ne (tgt := 83) dX10_plants_76 (by decide) (fun _ => ?_) (fun hz => absurd hz (show ¬ _ from nI_m1 (by omega)))
  refine r_iconst (v := nI 1) dX10_plants_83 (by decide) ?_
  refine r_iload_n dX10_plants_84 rfl ?_
  refine r_ishl dX10_plants_85 ?_
  refine r_ior dX10_plants_86 ?_
  refine r_iast dX10_plants_87 (aM_9 hM) (nI_in8 8 (by omega) (by decide)) (nI_clamp (by omega)) ?_
  rw [gI_Alk, gI_Wlk]
  refine r_aload_n dX10_plants_88 rfl ?_
  refine r_getR dX10_plants_89 fl_X10_38 rfl (kM_0 hM) (pM_12 hM) ?_
  refine r_iload_n dX10_plants_92 rfl ?_
  refine r_aload_n dX10_plants_93 rfl ?_
  refine r_getI dX10_plants_94 fl_X10_505 rfl (kM_0 hM) ?_
  rw [gI_Gpl]
  refine r_iast dX10_plants_97 (aM_12 hM) (nI_in8 8 (by omega) (by decide)) (nI_clamp (by omega)) ?_
  rw [gI_Atf, gI_Wtf]
  change RuZ _ _ _ _ _ _ _ _ _ _ _ _ _ _ _ (gI m (pSet h ((nI 1 <<< (nI h &&& 31)) ||| (nI 1 <<< (nI (dv (lcg (pIt q)) % h) &&& 31))) (pD q)) I) _ _
  refine r_iload_n dX10_plants_98 rfl ?_
  refine r_iconst (v := nI 3) dX10_plants_99 (by decide) ?_
  refine r_icmp_ne (tgt := 115) dX10_plants_100 (by decide) (fun hz => absurd (show _ from rfl) hz) (fun _ => ?_)
  refine r_aload_n dX10_plants_103 rfl ?_
  refine r_bipush (v := nI 12) dX10_plants_104 (by decide) ?_
  refine r_virtV (c_word_12 m (pSet h ((nI 1 <<< (nI h &&& 31)) ||| (nI 1 <<< (nI (dv (lcg (pIt q)) % h) &&& 31))) (pD q)) hM (by simp only [pSet_pl, pWs_pl, pW_pl, pV_pl, pP_pl, pA_pl, pD_pl, hereW, ofW, notW, List.length_cons, List.length_nil]; omega)) lk_X10_514 mc_X10_writesWord dX10_plants_106 (kM_0 hM) (by decide) rfl rfl (Nat.le_of_ble_eq_true rfl) ?_
  change RuZ _ _ _ _ _ _ _ _ _ _ _ _ _ _ _ (gI m (pWs notW (pSet h ((nI 1 <<< (nI h &&& 31)) ||| (nI 1 <<< (nI (dv (lcg (pIt q)) % h) &&& 31))) (pD q))) I) _ _
  refine r_aload_n dX10_plants_109 rfl ?_
  refine r_bipush (v := nI 32) dX10_plants_110 (by decide) ?_
  refine r_virtV (c_w m (pWs notW (pSet h ((nI 1 <<< (nI h &&& 31)) ||| (nI 1 <<< (nI (dv (lcg (pIt q)) % h) &&& 31))) (pD q))) (nI 32) hM (by simp only [pSet_pl, pWs_pl, pW_pl, pV_pl, pP_pl, pA_pl, pD_pl, hereW, ofW, notW, List.length_cons, List.length_nil]; omega)) lk_X10_508 mc_X10_writes dX10_plants_112 (kM_0 hM) (by decide) rfl rfl (Nat.le_of_ble_eq_true rfl) ?_
  refine r_aload_n dX10_plants_115 rfl ?_
  refine r_iconst (v := nI 0) dX10_plants_116 (by decide) ?_
  refine r_virtV (c_word_0 m (pW (nI 32) (pWs notW (pSet h ((nI 1 <<< (nI h &&& 31)) ||| (nI 1 <<< (nI (dv (lcg (pIt q)) % h) &&& 31))) (pD q)))) hM (by simp only [pSet_pl, pWs_pl, pW_pl, pV_pl, pP_pl, pA_pl, pD_pl, hereW, ofW, notW, List.length_cons, List.length_nil]; omega)) lk_X10_514 mc_X10_writesWord dX10_plants_117 (kM_0 hM) (by decide) rfl rfl (Nat.le_of_ble_eq_true rfl) ?_
  change RuZ _ _ _ _ _ _ _ _ _ _ _ _ _ _ _ (gI m (pWs hereW (pW (nI 32) (pWs notW (pSet h ((nI 1 <<< (nI h &&& 31)) ||| (nI 1 <<< (nI (dv (lcg (pIt q)) % h) &&& 31))) (pD q))))) I) _ _
  refine r_aload_n dX10_plants_120 rfl ?_
  refine r_bipush (v := nI 61) dX10_plants_121 (by decide) ?_
  refine r_virtV (c_w m (pWs hereW (pW (nI 32) (pWs notW (pSet h ((nI 1 <<< (nI h &&& 31)) ||| (nI 1 <<< (nI (dv (lcg (pIt q)) % h) &&& 31))) (pD q))))) (nI 61) hM (by simp only [pSet_pl, pWs_pl, pW_pl, pV_pl, pP_pl, pA_pl, pD_pl, hereW, ofW, notW, List.length_cons, List.length_nil]; omega)) lk_X10_508 mc_X10_writes dX10_plants_123 (kM_0 hM) (by decide) rfl rfl (Nat.le_of_ble_eq_true rfl) ?_
  refine r_aload_n dX10_plants_126 rfl ?_
  refine r_iload_n dX10_plants_127 rfl ?_
  refine r_virtV (c_v m (pW (nI 61) (pWs hereW (pW (nI 32) (pWs notW (pSet h ((nI 1 <<< (nI h &&& 31)) ||| (nI 1 <<< (nI (dv (lcg (pIt q)) % h) &&& 31))) (pD q)))))) (h) hM (by simp only [pSet_pl, pWs_pl, pW_pl, pV_pl, pP_pl, pA_pl, pD_pl, hereW, ofW, notW, List.length_cons, List.length_nil]; omega)) lk_X10_535 mc_X10_plantsValue dX10_plants_128 (kM_0 hM) (by decide) rfl rfl (Nat.le_of_ble_eq_true rfl) ?_
  refine r_iload_n dX10_plants_131 rfl ?_
  refine r_iconst (v := (-1)) dX10_plants_132 (by decide) ?_
  refine r_icmp_eq (tgt := 158) dX10_plants_133 (by decide) (fun hz => absurd hz (show ¬ _ from nI_m1 (by omega))) (fun _ => ?_)
  refine r_aload_n dX10_plants_136 rfl ?_
  refine r_bipush (v := nI 6) dX10_plants_137 (by decide) ?_
  refine r_virtV (c_word_6 m (pV h (pW (nI 61) (pWs hereW (pW (nI 32) (pWs notW (pSet h ((nI 1 <<< (nI h &&& 31)) ||| (nI 1 <<< (nI (dv (lcg (pIt q)) % h) &&& 31))) (pD q))))))) hM (by simp only [pSet_pl, pWs_pl, pW_pl, pV_pl, pP_pl, pA_pl, pD_pl, hereW, ofW, notW, List.length_cons, List.length_nil]; omega)) lk_X10_514 mc_X10_writesWord dX10_plants_139 (kM_0 hM) (by decide) rfl rfl (Nat.le_of_ble_eq_true rfl) ?_
  change RuZ _ _ _ _ _ _ _ _ _ _ _ _ _ _ _ (gI m (pWs ofW (pV h (pW (nI 61) (pWs hereW (pW (nI 32) (pWs notW (pSet h ((nI 1 <<< (nI h &&& 31)) ||| (nI 1 <<< (nI (dv (lcg (pIt q)) % h) &&& 31))) (pD q)))))))) I) _ _
  refine r_aload_n dX10_plants_142 rfl ?_
  refine r_bipush (v := nI 32) dX10_plants_143 (by decide) ?_
  refine r_virtV (c_w m (pWs ofW (pV h (pW (nI 61) (pWs hereW (pW (nI 32) (pWs notW (pSet h ((nI 1 <<< (nI h &&& 31)) ||| (nI 1 <<< (nI (dv (lcg (pIt q)) % h) &&& 31))) (pD q)))))))) (nI 32) hM (by simp only [pSet_pl, pWs_pl, pW_pl, pV_pl, pP_pl, pA_pl, pD_pl, hereW, ofW, notW, List.length_cons, List.length_nil]; omega)) lk_X10_508 mc_X10_writes dX10_plants_145 (kM_0 hM) (by decide) rfl rfl (Nat.le_of_ble_eq_true rfl) ?_
  refine r_aload_n dX10_plants_148 rfl ?_
  refine r_iload_n dX10_plants_149 rfl ?_
  refine r_virtV (c_n m (dv (lcg (pIt q)) % h) (pW (nI 32) (pWs ofW (pV h (pW (nI 61) (pWs hereW (pW (nI 32) (pWs notW (pSet h ((nI 1 <<< (nI h &&& 31)) ||| (nI 1 <<< (nI (dv (lcg (pIt q)) % h) &&& 31))) (pD q))))))))) hM (by omega) (by simp only [pSet_pl, pWs_pl, pW_pl, pV_pl, pP_pl, pA_pl, pD_pl, hereW, ofW, notW, List.length_cons, List.length_nil]; omega)) lk_X10_517 mc_X10_writesNumber dX10_plants_150 (kM_0 hM) (by decide) rfl rfl (Nat.le_of_ble_eq_true rfl) ?_
  refine r_aload_n dX10_plants_153 rfl ?_
  refine r_iload_n dX10_plants_154 rfl ?_
  refine r_virtV (c_v m (pWs (dg (dv (lcg (pIt q)) % h)) (pW (nI 32) (pWs ofW (pV h (pW (nI 61) (pWs hereW (pW (nI 32) (pWs notW (pSet h ((nI 1 <<< (nI h &&& 31)) ||| (nI 1 <<< (nI (dv (lcg (pIt q)) % h) &&& 31))) (pD q)))))))))) (dv (lcg (pIt q)) % h) hM (by simp only [pSet_pl, pWs_pl, pW_pl, pV_pl, pP_pl, pA_pl, pD_pl, hereW, ofW, notW, List.length_cons, List.length_nil]; omega)) lk_X10_535 mc_X10_plantsValue dX10_plants_155 (kM_0 hM) (by decide) rfl rfl (Nat.le_of_ble_eq_true rfl) ?_
  refine r_iload_n dX10_plants_158 rfl ?_
  refine r_iconst (v := nI 2) dX10_plants_159 (by decide) ?_
  refine r_icmp_ne (tgt := 169) dX10_plants_160 (by decide) (fun _ => ?_) (fun hz => absurd hz (show ¬ _ from by decide))
  refine r_iload dX10_plants_169 rfl ?_
  refine r_iconst (v := (-1)) dX10_plants_171 (by decide) ?_
  refine r_icmp_eq (tgt := 214) dX10_plants_172 (by decide) (fun _ => ?_) (fun hz => absurd (show _ from rfl) hz)
  refine r_iload_n dX10_plants_214 rfl ?_
  refine r_iconst (v := nI 2) dX10_plants_215 (by decide) ?_
  refine r_icmp_ne (tgt := 225) dX10_plants_216 (by decide) (fun _ => ?_) (fun hz => absurd hz (show ¬ _ from by decide))
  refine r_aload_n dX10_plants_225 rfl ?_
  refine r_bipush (v := nI 7) dX10_plants_226 (by decide) ?_
  refine r_virtV (c_a m (pV (dv (lcg (pIt q)) % h) (pWs (dg (dv (lcg (pIt q)) % h)) (pW (nI 32) (pWs ofW (pV h (pW (nI 61) (pWs hereW (pW (nI 32) (pWs notW (pSet h ((nI 1 <<< (nI h &&& 31)) ||| (nI 1 <<< (nI (dv (lcg (pIt q)) % h) &&& 31))) (pD q))))))))))) (nI 7) hM (by simp only [pSet_pl, pWs_pl, pW_pl, pV_pl, pP_pl, pA_pl, pD_pl, hereW, ofW, notW, List.length_cons, List.length_nil]; omega)) lk_X10_538 mc_X10_plantsAct dX10_plants_228 (kM_0 hM) (by decide) rfl rfl (Nat.le_of_ble_eq_true rfl) ?_
  refine r_iload_n dX10_plants_231 rfl ?_
  refine r_iconst (v := nI 3) dX10_plants_232 (by decide) ?_
  refine r_icmp_ne (tgt := 241) dX10_plants_233 (by decide) (fun hz => absurd (show _ from rfl) hz) (fun _ => ?_)
  refine r_aload_n dX10_plants_236 rfl ?_
  refine r_iconst (v := nI 3) dX10_plants_237 (by decide) ?_
  refine r_virtV (c_a m (pA (nI 7) (pV (dv (lcg (pIt q)) % h) (pWs (dg (dv (lcg (pIt q)) % h)) (pW (nI 32) (pWs ofW (pV h (pW (nI 61) (pWs hereW (pW (nI 32) (pWs notW (pSet h ((nI 1 <<< (nI h &&& 31)) ||| (nI 1 <<< (nI (dv (lcg (pIt q)) % h) &&& 31))) (pD q)))))))))))) (nI 3) hM (by simp only [pSet_pl, pWs_pl, pW_pl, pV_pl, pP_pl, pA_pl, pD_pl, hereW, ofW, notW, List.length_cons, List.length_nil]; omega)) lk_X10_538 mc_X10_plantsAct dX10_plants_238 (kM_0 hM) (by decide) rfl rfl (Nat.le_of_ble_eq_true rfl) ?_
  refine r_aload_n dX10_plants_241 rfl ?_
  refine r_iconst (v := nI 0) dX10_plants_242 (by decide) ?_
  refine r_virtV (c_a m (pA (nI 3) (pA (nI 7) (pV (dv (lcg (pIt q)) % h) (pWs (dg (dv (lcg (pIt q)) % h)) (pW (nI 32) (pWs ofW (pV h (pW (nI 61) (pWs hereW (pW (nI 32) (pWs notW (pSet h ((nI 1 <<< (nI h &&& 31)) ||| (nI 1 <<< (nI (dv (lcg (pIt q)) % h) &&& 31))) (pD q))))))))))))) (nI 0) hM (by simp only [pSet_pl, pWs_pl, pW_pl, pV_pl, pP_pl, pA_pl, pD_pl, hereW, ofW, notW, List.length_cons, List.length_nil]; omega)) lk_X10_538 mc_X10_plantsAct dX10_plants_243 (kM_0 hM) (by decide) rfl rfl (Nat.le_of_ble_eq_true rfl) ?_
  refine r_aload_n dX10_plants_246 rfl ?_
  refine r_getR dX10_plants_247 fl_X10_41 rfl (kM_0 hM) (pM_13 hM) ?_
  refine r_iload_n dX10_plants_250 rfl ?_
  refine r_aload_n dX10_plants_251 rfl ?_
  refine r_getI dX10_plants_252 fl_X10_505 rfl (kM_0 hM) ?_
  rw [gI_Gpl]
  refine r_iast dX10_plants_255 (aM_13 hM) (nI_in8 8 (by omega) (by decide)) (nI_clamp (by omega)) ?_
  rw [gI_Att, gI_Wtt]
  refine r_vret rfl dX10_plants_256 ?_
  exact am_is.mk


theorem ord_sim2 {n cp cp1 : Int} {vl vl1 : (Int → Int) → Int} (hn : 0 ≤ n) (hc : n ≤ cp) (hc1 : n ≤ cp1) (hv : ∀ T T1 : Int → Int, (∀ j, 0 ≤ j → j < n → T1 j = T j ∧ 0 ≤ T j ∧ T j < n) → vl1 T1 = vl T) : ∀ {k : Nat} {p u : Int} {s t : OSt}, 0 ≤ p → p ≤ n →
    ((∀ j, 0 ≤ j → j < p → t.1 j = s.1 j ∧ 0 ≤ s.1 j ∧ s.1 j < n) ∧ t.2.1 = s.2.1 ∧ (s.2.1 = -1 ∨ ∀ j, 0 ≤ j → j < n → t.2.2 j = s.2.2 j)) →
    ((∀ j, 0 ≤ j → j < p → (ordN n vl1 cp1 k p u t).1 j = (ordN n vl cp k p u s).1 j ∧ 0 ≤ (ordN n vl cp k p u s).1 j ∧ (ordN n vl cp k p u s).1 j < n) ∧ (ordN n vl1 cp1 k p u t).2.1 = (ordN n vl cp k p u s).2.1 ∧ ((ordN n vl cp k p u s).2.1 = -1 ∨ ∀ j, 0 ≤ j → j < n → (ordN n vl1 cp1 k p u t).2.2 j = (ordN n vl cp k p u s).2.2 j))
  | 0, _, _, _, _, _, _, h => h
  | k + 1, p, u, s, t, h0, h1, h => by
    rcases Int.lt_or_le p n with hp | hp
    · rw [ord_loop hp, ord_loop hp]
      refine iter_sim (p := fun (t s : OSt) => (∀ j, 0 ≤ j → j < p → t.1 j = s.1 j ∧ 0 ≤ s.1 j ∧ s.1 j < n) ∧ t.2.1 = s.2.1 ∧ (s.2.1 = -1 ∨ ∀ j, 0 ≤ j → j < n → t.2.2 j = s.2.2 j)) hn h fun i t s i0 i1 hts => ?_
      by_cases e : pAnd (pShr u i) 1 = 0
      · rw [ordS_t e, ordS_t e]
        have h9 := ord_sim2 hn hc hc1 hv (k := k) (p := p + 1) (u := pOr u (pShl 1 i)) (s := (upA s.1 p i, s.2)) (t := (upA t.1 p i, t.2)) (by omega) (by omega) ⟨fun j j0 j1 => by
          show upA t.1 p i j = upA s.1 p i j ∧ 0 ≤ upA s.1 p i j ∧ upA s.1 p i j < n
          by_cases z : j = p
          · rw [z, upA_same, upA_same]; exact ⟨rfl, i0, i1⟩
          · rw [upA_ne z, upA_ne z]; exact hts.1 j j0 (by omega), hts.2.1, hts.2.2⟩
        exact ⟨fun j j0 j1 => h9.1 j j0 (by omega), h9.2⟩
      · rw [ordS_f e, ordS_f e]; exact hts
    · have e1 := hv s.1 t.1 (fun j j0 j1 => h.1 j j0 (by omega))
      by_cases e : s.2.1 < vl s.1
      · rw [ord_better hp e, ord_better hp (by rw [e1, h.2.1]; exact e)]
        exact ⟨h.1, e1, Or.inr fun j j0 j1 => by show cpF t.1 t.2.2 cp1 j = cpF s.1 s.2.2 cp j; rw [cpF_in j0 (by omega), cpF_in j0 (by omega)]; exact (h.1 j j0 (by omega)).1⟩
      · rw [ord_not hp e, ord_not hp (by rw [e1, h.2.1]; exact e)]
        exact h
theorem ord_mono {n : Int} {vl : (Int → Int) → Int} {cp : Int} (hn : 0 ≤ n) : ∀ {k : Nat} {p u : Int} {s : OSt}, s.2.1 ≤ (ordN n vl cp k p u s).2.1
  | 0, _, _, _ => Int.le_refl _
  | k + 1, p, u, s => by
    rcases Int.lt_or_le p n with h | h
    · rw [ord_loop h]
      refine iter_inv (p := fun t : OSt => s.2.1 ≤ t.2.1) hn (Int.le_refl _) fun i t i0 i1 ht => ?_
      by_cases e : pAnd (pShr u i) 1 = 0
      · rw [ordS_t e]
        have := ord_mono hn (k := k) (p := p + 1) (u := pOr u (pShl 1 i)) (s := (upA t.1 p i, t.2)) (vl := vl) (cp := cp)
        show s.2.1 ≤ _
        exact Int.le_trans ht this
      · rw [ordS_f e]; exact ht
    · by_cases e : s.2.1 < vl s.1
      · rw [ord_better h e]; show s.2.1 ≤ vl s.1; omega
      · rw [ord_not h e]; exact Int.le_refl _
theorem ord_rng {n : Int} {vl : (Int → Int) → Int} {cp : Int} (hn : 0 ≤ n) {k : Nat} {p u : Int} {s : OSt} {m : Int} (m0 : 0 ≤ m) (hT : ∀ j, 0 ≤ j → j < p → 0 ≤ s.1 j ∧ s.1 j < n) : ∀ j, 0 ≤ j → j < p → 0 ≤ (iterI (ordS n vl cp k p u) m s).1 j ∧ (iterI (ordS n vl cp k p u) m s).1 j < n := by
  refine iter_inv (p := fun t : OSt => ∀ j, 0 ≤ j → j < p → 0 ≤ t.1 j ∧ t.1 j < n) m0 hT fun i t i0 i1 ht j j0 j1 => ?_
  by_cases e : pAnd (pShr u i) 1 = 0
  · rw [ordS_t e, ord_keep hn (show j < p + 1 by omega)]
    show 0 ≤ upA t.1 p i j ∧ upA t.1 p i j < n
    rw [upA_ne (by omega)]
    exact ht j j0 j1
  · rw [ordS_f e]; exact ht j j0 j1
def msk (p u : Int) : Prop := (p = 0 ∧ u = 0) ∨ (p = 1 ∧ u = 1) ∨ (p = 2 ∧ u = 3) ∨ (p = 3 ∧ u = 7) ∨ (p = 4 ∧ u = 15) ∨ (p = 5 ∧ u = 31) ∨ (p = 6 ∧ u = 63)
theorem msk_s {p u : Int} (h : msk p u) (hp : p < 6) : pAnd (pShr u p) 1 = 0 ∧ msk (p + 1) (pOr u (pShl 1 p)) := by
  rcases h with ⟨a, b⟩ | ⟨a, b⟩ | ⟨a, b⟩ | ⟨a, b⟩ | ⟨a, b⟩ | ⟨a, b⟩ | ⟨a, b⟩ <;> subst a <;> subst b
  · exact ⟨by decide +kernel, Or.inr (Or.inl ⟨rfl, by decide +kernel⟩)⟩
  · exact ⟨by decide +kernel, Or.inr (Or.inr (Or.inl ⟨rfl, by decide +kernel⟩))⟩
  · exact ⟨by decide +kernel, Or.inr (Or.inr (Or.inr (Or.inl ⟨rfl, by decide +kernel⟩)))⟩
  · exact ⟨by decide +kernel, Or.inr (Or.inr (Or.inr (Or.inr (Or.inl ⟨rfl, by decide +kernel⟩))))⟩
  · exact ⟨by decide +kernel, Or.inr (Or.inr (Or.inr (Or.inr (Or.inr (Or.inl ⟨rfl, by decide +kernel⟩)))))⟩
  · exact ⟨by decide +kernel, Or.inr (Or.inr (Or.inr (Or.inr (Or.inr (Or.inr ⟨rfl, by decide +kernel⟩)))))⟩
  · omega
theorem ord_nn {n : Int} {vl : (Int → Int) → Int} {cp : Int} (hn : 0 ≤ n ∧ n ≤ 6) (hv : ∀ T : Int → Int, (∀ j, 0 ≤ j → j < n → 0 ≤ T j ∧ T j < n) → 0 ≤ vl T) : ∀ {k : Nat} {p u : Int} {s : OSt}, (k : Int) + p = 7 → 0 ≤ p → p ≤ n → msk p u → (∀ j, 0 ≤ j → j < p → 0 ≤ s.1 j ∧ s.1 j < n) → 0 ≤ (ordN n vl cp k p u s).2.1
  | 0, p, _, _, hk, _, hp, _, _ => by exfalso; omega
  | k + 1, p, u, s, hk, p0, hp, hm, hT => by
    rcases Int.lt_or_le p n with h | h
    · rw [ord_loop h]
      obtain ⟨m1, m2⟩ := msk_s hm (by omega)
      have key : ∀ d, 0 ≤ d → p + 1 + d ≤ n → 0 ≤ (iterI (ordS n vl cp k p u) (p + 1 + d) s).2.1 := nat_ind (p := fun d => p + 1 + d ≤ n → 0 ≤ (iterI (ordS n vl cp k p u) (p + 1 + d) s).2.1) (fun _ => by
        rw [show p + 1 + 0 = p + 1 by omega, iter_s _ p0, ordS_t m1]
        refine ord_nn hn hv (by omega) (by omega) (by omega) m2 fun j j0 j1 => ?_
        show 0 ≤ upA _ p p j ∧ upA _ p p j < n
        by_cases z : j = p
        · rw [z, upA_same]; omega
        · rw [upA_ne z]; exact ord_rng hn.1 p0 hT j j0 (by omega)) (fun d hd ih hdn => by
        rw [show p + 1 + (d + 1) = p + 1 + d + 1 by omega, iter_s _ (by omega)]
        have h1 := ih (by omega)
        by_cases e : pAnd (pShr u (p + 1 + d)) 1 = 0
        · rw [ordS_t e]
          exact Int.le_trans h1 (ord_mono hn.1 (s := (upA (iterI (ordS n vl cp k p u) (p + 1 + d) s).1 p (p + 1 + d), (iterI (ordS n vl cp k p u) (p + 1 + d) s).2)))
        · rw [ordS_f e]; exact h1)
      have := key (n - p - 1) (by omega) (by omega)
      rw [show p + 1 + (n - p - 1) = n by omega] at this
      exact this
    · have h1 := hv s.1 (fun j j0 j1 => hT j j0 (by omega))
      by_cases e : s.2.1 < vl s.1
      · rw [ord_better h e]; exact h1
      · rw [ord_not h e]; omega
theorem vl_nn {ai go co T : Int → Int} {n m z : Int} (hn : 0 ≤ n) (hm : 0 ≤ m) (hz : 0 ≤ z) (hT : ∀ j, 0 ≤ j → j < n → 0 ≤ T j ∧ T j < n) (hg : ∀ j, 0 ≤ j → j < n → (0 ≤ go j ∧ go j ≤ 99) ∧ 0 ≤ co j ∧ co j ≤ 99) : 0 ≤ vlI ai n go co z T m := by
  refine nat_ind (p := fun m => 0 ≤ vlI ai n go co z T m) hz (fun k hk ih => ?_) m hm
  have h1 := (cmv_eq (go := go) (co := co) (go1 := go) (co1 := co) (T := T) (T1 := T) (a := ai k) hn (fun j a b => ⟨rfl, hT j a b⟩) (fun j a b => ⟨⟨rfl, (hg j a b).1⟩, rfl, (hg j a b).2⟩)).2.1
  rw [vl_s _ _ _ _ _ _ hk]
  omega




set_option maxRecDepth 10000 in
theorem call_order {l : Launch} {w : Wo} {d : Nat} {G : PH} (hI : Inv w.1.2 G G)  : CallOk l w d M_X11_order M_X12_order [some (vR 11 (0))] [some (vR 12 (0))] G := by
  obtain ⟨iL, iP, iS, iF, iO, iE, iT, iR, iB, iX, iH, iG, iQ, iN, iA, iJ⟩ := hI
  have hz6 : 0 ≤ (gF G 6 0 2) ∧ (gF G 6 0 2) ≤ 6 := iN.1.2
  have e6 : (gF G 12 0 96) = (gF G 6 0 2) := iN.1.1
  have mhz6 : 0 ≤ (gF G 12 0 96) ∧ (gF G 12 0 96) ≤ 6 := by omega
  have hz4 : 0 ≤ (gF G 6 0 4) ∧ (gF G 6 0 4) ≤ 4 := iN.2.2.1.2
  have e4 : (gF G 12 0 98) = (gF G 6 0 4) := iN.2.2.1.1
  have mhz4 : 0 ≤ (gF G 12 0 98) ∧ (gF G 12 0 98) ≤ 4 := by omega
  have hgb : ∀ j, 0 ≤ j → j < (gF G 6 0 2) → (0 ≤ (gA G 60 0 (j)) ∧ (gA G 60 0 (j)) ≤ 99) ∧ 0 ≤ (gA G 61 0 (j)) ∧ (gA G 61 0 (j)) ≤ 99 := fun j a b => by have := iN.2.1 j a b; omega
  have mhgb : ∀ j, 0 ≤ j → j < (gF G 12 0 96) → (0 ≤ (gA G 264 0 (j)) ∧ (gA G 264 0 (j)) ≤ 99) ∧ 0 ≤ (gA G 265 0 (j)) ∧ (gA G 265 0 (j)) ≤ 99 := fun j a b => by have := iN.2.1 j a (by omega); omega
  unfold CallOk CallPhi
  refine sp_X11_order (d := d + 983) (by first | assumption | exact hz6 | omega) (by first | assumption | exact hz4 | omega) (by first | assumption | exact hgb | omega) ?_ ?_
  · intro c1
    refine sp_X12_order (d := d + 991) (by first | assumption | exact mhz6 | omega) (by first | assumption | exact mhz4 | omega) (by first | assumption | exact mhgb | omega) ?_ ?_
    · intro m1
      replace m1 : ((gF G 12 (0) 96) = 0 ∨ (gF G 12 (0) 98) = 0) := m1
      exact ⟨⟨rfl, _, rfl⟩, iL, iP, iS, iF, iO, iE, iT, iR, iB, iX, iH, iG, iQ, iN, iA, iJ⟩
    · intro m1 m2 T2 B2 O2 m3
      replace m1 : (gF G 12 (0) 96) ≠ 0 := m1
      replace m2 : (gF G 12 (0) 98) ≠ 0 := m2
      replace m3 : (T2, B2, O2) = ordN (gF G 12 (0) 96) (fun T2 => vlI (gA G 266 0) (gF G 12 (0) 96) (gA G 264 0) (gA G 265 0) 100000 T2 (gF G 12 (0) 98)) (gF G 12 (0) 96) 7 0 0 (gA G 267 0, -1, gA G 268 0) := m3
      exfalso; omega
  · intro c1 c2 T B O c3
    refine sp_X12_order (d := d + 991) (by first | assumption | exact mhz6 | omega) (by first | assumption | exact mhz4 | omega) (by first | assumption | exact mhgb | omega) ?_ ?_
    · intro m1
      replace m1 : ((gF G 12 (0) 96) = 0 ∨ (gF G 12 (0) 98) = 0) := m1
      exfalso; omega
    · intro m1 m2 T2 B2 O2 m3
      replace m1 : (gF G 12 (0) 96) ≠ 0 := m1
      replace m2 : (gF G 12 (0) 98) ≠ 0 := m2
      replace m3 : (T2, B2, O2) = ordN (gF G 12 (0) 96) (fun T2 => vlI (gA G 266 0) (gF G 12 (0) 96) (gA G 264 0) (gA G 265 0) 100000 T2 (gF G 12 (0) 98)) (gF G 12 (0) 96) 7 0 0 (gA (sF (sF (sF (uA (uA (sF (sF G 6 (0) 6 (-1)) 6 (0) 8 (gF G 6 0 2)) 63 (0) (T)) 64 (0) (O)) 6 (0) 6 (B)) 6 (0) 2 (0)) 6 (0) 4 (0)) 267 0, -1, gA (sF (sF (sF (uA (uA (sF (sF G 6 (0) 6 (-1)) 6 (0) 8 (gF G 6 0 2)) 63 (0) (T)) 64 (0) (O)) 6 (0) 6 (B)) 6 (0) 2 (0)) 6 (0) 4 (0)) 268 0) := m3
      show (some (vI B2) = some (vI B) ∧ ∃ vz, some (vI B) = some (vI vz)) ∧ Inv w.1.2 (sF (sF (sF (sF (uA (uA (sF (sF (sF (sF (uA (uA (sF (sF G 6 (0) 6 (-1)) 6 (0) 8 (gF G 6 0 2)) 63 (0) (T)) 64 (0) (O)) 6 (0) 6 (B)) 6 (0) 2 (0)) 6 (0) 4 (0)) 12 (0) 102 (-1)) 267 (0) (T2)) 268 (0) (O2)) 12 (0) 102 (B2)) 12 (0) 101 (gF (sF (sF (sF (uA (uA (sF (sF G 6 (0) 6 (-1)) 6 (0) 8 (gF G 6 0 2)) 63 (0) (T)) 64 (0) (O)) 6 (0) 6 (B)) 6 (0) 2 (0)) 6 (0) 4 (0)) 12 0 96)) 12 (0) 96 (0)) 12 (0) 98 (0)) (sF (sF (sF (sF (uA (uA (sF (sF (sF (sF (uA (uA (sF (sF G 6 (0) 6 (-1)) 6 (0) 8 (gF G 6 0 2)) 63 (0) (T)) 64 (0) (O)) 6 (0) 6 (B)) 6 (0) 2 (0)) 6 (0) 4 (0)) 12 (0) 102 (-1)) 267 (0) (T2)) 268 (0) (O2)) 12 (0) 102 (B2)) 12 (0) 101 (gF (sF (sF (sF (uA (uA (sF (sF G 6 (0) 6 (-1)) 6 (0) 8 (gF G 6 0 2)) 63 (0) (T)) 64 (0) (O)) 6 (0) 6 (B)) 6 (0) 2 (0)) 6 (0) 4 (0)) 12 0 96)) 12 (0) 96 (0)) 12 (0) 98 (0))
      replace m3 : (T2, B2, O2) = ordN (gF G 12 0 96) (fun T => vlI (gA G 266 0) (gF G 12 0 96) (gA G 264 0) (gA G 265 0) 100000 T (gF G 12 0 98)) (gF G 12 0 96) 7 0 0 (gA G 267 0, -1, gA G 268 0) := m3
      rw [e6, e4] at m3
      have hsim := ord_sim2 (n := (gF G 6 0 2)) (cp := 6) (cp1 := (gF G 6 0 2)) (vl := (fun T => vlI (gA G 62 0) (gF G 6 0 2) (gA G 60 0) (gA G 61 0) 1000000000 T (gF G 6 0 4))) (vl1 := fun T => vlI (gA G 266 0) (gF G 6 0 2) (gA G 264 0) (gA G 265 0) 100000 T (gF G 6 0 4)) hz6.1 hz6.2 (Int.le_refl _) (fun T T1 hT => vl_eq hz6 (by omega) (by decide) (by decide) hT (fun j a b => by have := iN.2.1 j a b; omega) (fun j a b => iN.2.2.2.1 j a b)) (k := 7) (p := 0) (u := 0) (s := (gA G 63 0, -1, gA G 64 0)) (t := (gA G 267 0, -1, gA G 268 0)) (Int.le_refl _) hz6.1 ⟨fun j a b => by omega, rfl, Or.inl rfl⟩
      have hnn := ord_nn (n := (gF G 6 0 2)) (cp := 6) (vl := (fun T => vlI (gA G 62 0) (gF G 6 0 2) (gA G 60 0) (gA G 61 0) 1000000000 T (gF G 6 0 4))) hz6 (fun T hT => vl_nn hz6.1 hz4.1 (by decide) hT (fun j a b => hgb j a b)) (k := 7) (p := 0) (u := 0) (s := (gA G 63 0, -1, gA G 64 0)) (by decide) (Int.le_refl _) hz6.1 (Or.inl ⟨rfl, rfl⟩) (fun j a b => by omega)
      rw [← c3] at hsim hnn
      rw [← m3] at hsim
      obtain ⟨-, hB, hO⟩ := hsim
      replace hB : B2 = B := hB
      subst hB
      replace hnn : 0 ≤ B2 := hnn
      refine ⟨⟨rfl, _, rfl⟩, iL, iP, iS, iF, iO, iE, iT, iR, iB, iX, iH, iG, iQ, ?_, iA, iJ⟩
      refine ⟨⟨rfl, by simp only [gF_sF, gF_sA, gF_uA, gF_sD, gA_sF, gA_sA, gA_uA, gA_sD, gD_sF, gD_sA, gD_uA, gD_sD, Nat.reduceEqDiff, reduceCtorEq, false_and, and_false, true_and, and_true, ite_true, ite_false, if_true, if_false, ↓reduceIte, and_self]; omega⟩, fun i a b => absurd b (by simp only [gF_sF, gF_sA, gF_uA, gF_sD, gA_sF, gA_sA, gA_uA, gA_sD, gD_sF, gD_sA, gD_uA, gD_sD, Nat.reduceEqDiff, reduceCtorEq, false_and, and_false, true_and, and_true, ite_true, ite_false, if_true, if_false, ↓reduceIte, and_self]; omega), ⟨rfl, by simp only [gF_sF, gF_sA, gF_uA, gF_sD, gA_sF, gA_sA, gA_uA, gA_sD, gD_sF, gD_sA, gD_uA, gD_sD, Nat.reduceEqDiff, reduceCtorEq, false_and, and_false, true_and, and_true, ite_true, ite_false, if_true, if_false, ↓reduceIte, and_self]; omega⟩, fun i a b => absurd b (by simp only [gF_sF, gF_sA, gF_uA, gF_sD, gA_sF, gA_sA, gA_uA, gA_sD, gD_sF, gD_sA, gD_uA, gD_sD, Nat.reduceEqDiff, reduceCtorEq, false_and, and_false, true_and, and_true, ite_true, ite_false, if_true, if_false, ↓reduceIte, and_self]; omega), ⟨by simp only [gF_sF, gF_sA, gF_uA, gF_sD, gA_sF, gA_sA, gA_uA, gA_sD, gD_sF, gD_sA, gD_uA, gD_sD, Nat.reduceEqDiff, reduceCtorEq, false_and, and_false, true_and, and_true, ite_true, ite_false, if_true, if_false, ↓reduceIte, and_self]; omega, by simp only [gF_sF, gF_sA, gF_uA, gF_sD, gA_sF, gA_sA, gA_uA, gA_sD, gD_sF, gD_sA, gD_uA, gD_sD, Nat.reduceEqDiff, reduceCtorEq, false_and, and_false, true_and, and_true, ite_true, ite_false, if_true, if_false, ↓reduceIte, and_self]; omega⟩, fun i a b => ?_⟩
      rcases hO with h | h
      · replace h : B2 = -1 := h
        omega
      · exact h i a b
set_option maxRecDepth 10000 in
theorem call_act {l : Launch} {w : Wo} {d : Nat} {G : PH} (hI : Inv w.1.2 G G) {p : Int} {a : Int} {x : Int} : CallOk l w d M_X11_act M_X12_act [some (vR 11 (0)), some (vI (p)), some (vI (a)), some (vI (x))] [some (vR 12 (0)), some (vI (p)), some (vI (a)), some (vI (x))] G := by
  obtain ⟨iL, iP, iS, iF, iO, iE, iT, iR, iB, iX, iH, iG, iQ, iN, iA, iJ⟩ := hI
  have hsz : 0 ≤ (gF G 1 0 1) ∧ (gF G 1 0 1) ≤ 150 := by have := iP.1; omega
  have ep : (gF G 12 0 17) = (gF G 1 0 1) := iP.1.2.2
  have mhsz : 0 ≤ (gF G 12 0 17) ∧ (gF G 12 0 17) ≤ 150 := by omega
  have hp : ∀ i, 0 ≤ i → i < (gF G 1 0 1) → gD G 30 0 i = some (3, i) := fun i a b => (iP.2.2.2 i a b).1.1
  have hcw := cnt_le (owP G) hsz.1
  have es : (gF G 12 0 22) = (gF G 1 0 3) := iS.1.1
  have hst : 0 ≤ (gF G 1 0 3) ∧ (gF G 1 0 3) ≤ 400 := by have := iS.1; omega
  have mhst : 0 ≤ (gF G 12 0 22) ∧ (gF G 12 0 22) ≤ 400 := by omega
  have hday : 0 ≤ (gF G 1 0 2) ∧ (gF G 1 0 2) ≤ 600 := iP.2.1.2
  have ed : (gF G 12 0 0) = (gF G 1 0 2) := iP.2.1.1
  have hpf := pf iP p
  have hkd : (0 ≤ p ∧ p < (gF G 1 0 1)) → 1 ≤ (gF G 3 (p) 1) ∧ (gF G 3 (p) 1) ≤ 7 := fun _ => by omega
  have mhkd : (0 ≤ p ∧ p < (gF G 12 0 17)) → 1 ≤ (gA G 204 0 (p)) ∧ (gA G 204 0 (p)) ≤ 7 := fun _ => by omega
  unfold CallOk CallPhi
  refine sp_X11_act (d := d + 972) (by first | assumption | exact hp | omega) (by first | assumption | exact hsz | omega) (by first | assumption | exact hkd | omega) ?_ ?_
  · intro c1
    refine sp_X12_act (d := d + 986) (by first | assumption | exact mhsz | omega) (by first | assumption | exact mhkd | omega) ?_ ?_
    · intro m1
      replace m1 : ¬ ((0 ≤ p ∧ p < (gF G 12 (0) 17)) ∧ 0 ≤ a ∧ a ≤ 2) := m1
      exact ⟨⟨rfl, _, rfl⟩, iL, iP, iS, iF, iO, iE, iT, iR, iB, iX, iH, iG, iQ, iN, iA, iJ⟩
    · intro m1 A2 cM m2
      replace m1 : ((0 ≤ p ∧ p < (gF G 12 (0) 17)) ∧ 0 ≤ a ∧ a ≤ 2) := m1
      replace m2 : (A2, cM) = List.foldl ntM (gA G 269 0, 0) (evR (gA G 208 (0) (p)) (gA G 210 (0) (p)) p (gA G 204 (0) (p)) a (gA G 204 (0) (p)) x).2 := m2
      exfalso; omega
  · intro c1 A c c2
    refine sp_X12_act (d := d + 986) (by first | assumption | exact mhsz | omega) (by first | assumption | exact mhkd | omega) ?_ ?_
    · intro m1
      replace m1 : ¬ ((0 ≤ p ∧ p < (gF G 12 (0) 17)) ∧ 0 ≤ a ∧ a ≤ 2) := m1
      exfalso; omega
    · intro m1 A2 cM m2
      replace m1 : ((0 ≤ p ∧ p < (gF G 12 (0) 17)) ∧ 0 ≤ a ∧ a ≤ 2) := m1
      replace m2 : (A2, cM) = List.foldl ntM (gA (sF (uA (sF G 1 (0) 17 (0)) 40 (0) (A)) 1 (0) 17 (c)) 269 0, 0) (evR (gA G 208 (0) (p)) (gA G 210 (0) (p)) p (gA G 204 (0) (p)) a (gA G 204 (0) (p)) x).2 := m2
      show (some (vI ((evR (gA G 208 (0) (p)) (gA G 210 (0) (p)) p (gA G 204 (0) (p)) a (gA G 204 (0) (p)) x).1)) = some (vI ((evR (gF G 3 p 3) (gF G 3 p 6) (gF G 3 p 0) (gF G 3 p 1) a (gF G 3 (p) 1) x).1)) ∧ ∃ vz, some (vI ((evR (gF G 3 p 3) (gF G 3 p 6) (gF G 3 p 0) (gF G 3 p 1) a (gF G 3 (p) 1) x).1)) = some (vI vz)) ∧ Inv w.1.2 (sF (uA (sF (sF (sF (uA (sF G 1 (0) 17 (0)) 40 (0) (A)) 1 (0) 17 (c)) 12 (0) 104 (0)) 12 (0) 105 (p)) 269 (0) (A2)) 12 (0) 104 (cM)) (sF (uA (sF (sF (sF (uA (sF G 1 (0) 17 (0)) 40 (0) (A)) 1 (0) 17 (c)) 12 (0) 104 (0)) 12 (0) 105 (p)) 269 (0) (A2)) 12 (0) 104 (cM))
      replace m2 : (A2, cM) = List.foldl ntM (gA G 269 0, 0) (evR (gA G 208 0 (p)) (gA G 210 0 (p)) p (gA G 204 0 (p)) a (gA G 204 0 (p)) x).2 := m2
      have hv : evR (gA G 208 0 (p)) (gA G 210 0 (p)) p (gA G 204 0 (p)) a (gA G 204 0 (p)) x = evR (gF G 3 p 3) (gF G 3 p 6) (gF G 3 p 0) (gF G 3 p 1) a (gF G 3 (p) 1) x := by rw [show (gA G 208 0 (p)) = (gF G 3 (p) 3) by omega, show (gA G 210 0 (p)) = (gF G 3 (p) 6) by omega, show (gA G 204 0 (p)) = (gF G 3 (p) 1) by omega, show (gF G 3 (p) 0) = p by omega]
      rw [hv] at m2
      have hs := nt_sim (evR (gF G 3 p 3) (gF G 3 p 6) (gF G 3 p 0) (gF G 3 p 1) a (gF G 3 (p) 1) x).2 (gA G 40 0, 0) (gA G 269 0, 0) (Int.le_refl _) rfl (fun i a b => absurd b (by show ¬ i < 0; omega))
      rw [← c2, ← m2] at hs
      refine ⟨⟨congrArg (fun q : AV => some (vI q.1)) hv, _, rfl⟩, iL, iP, iS, iF, iO, iE, iT, iR, iB, iX, iH, iG, iQ, iN, ?_, iJ⟩
      exact ⟨⟨hs.1, hs.2.1⟩, hs.2.2⟩

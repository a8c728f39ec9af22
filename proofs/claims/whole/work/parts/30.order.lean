theorem acp_ok : Cond.native arraycopyName ∈ UW ∧ Cond.static arraycopyName ∈ UW ∧ Cond.initialized "java/lang/System" ∈ UW := ⟨UW4_at 237 (by decide +kernel) rfl, UW4_at 236 (by decide +kernel) rfl, UW1_at 20 (by decide +kernel) rfl⟩
def cpF (f g : Int → Int) (n : Int) : Int → Int := fun j => if 0 ≤ j ∧ j < n then f j else g j
theorem cpF_in {f g : Int → Int} {n j : Int} (h0 : 0 ≤ j) (h1 : j < n) : cpF f g n j = f j := if_pos ⟨h0, h1⟩
theorem cpy_ent {G : PH} {c0 c1 : Nat} {r0 r1 n : Int} : va_cpy (fun j : Nat => Int32.ofInt (gA G c0 r0 j)) (fun j : Nat => Int32.ofInt (gA G c1 r1 j)) 0 0 n.toNat = fun j : Nat => Int32.ofInt (gA (uA G c1 r1 (cpyA G c0 r0 c1 r1 n)) c1 r1 j) := by
  funext j
  have e : gA (uA G c1 r1 (cpyA G c0 r0 c1 r1 n)) c1 r1 j = cpyA G c0 r0 c1 r1 n j := by rw [gA_uA, if_pos ⟨rfl, rfl⟩]
  rw [e]
  unfold va_cpy cpyA
  by_cases h : j < n.toNat
  · rw [if_pos (show 0 ≤ j ∧ j < 0 + n.toNat by omega), if_pos (show (0 : Int) ≤ j ∧ (j : Int) < n by omega)]
    show Int32.ofInt (gA G c0 r0 ((0 + (j - 0) : Nat) : Int)) = _
    rw [show 0 + (j - 0) = j by omega]
  · rw [if_neg (show ¬ (0 ≤ j ∧ j < 0 + n.toNat) by omega), if_neg (show ¬ ((0 : Int) ≤ j ∧ (j : Int) < n) by omega)]
theorem nfw : nativeFrameWords "java/lang/System" "arraycopy" 5 ≤ 20 := by decide +kernel
theorem pw_acopy {l : Launch} {w : Wo} {M : MI} {d K k pc pc' c0 c1 n0 n1 t : Nat} {r0 r1 n : Int} {ls : List (Option PV)} {st : List PV} {G : PH} {Φ : Wo → Option PV → PH → Prop} (hd : RAC M pc pc') (hs0 : shp c0 = (1, n0, t)) (hs1 : shp c1 = (1, n1, t)) (ht : t < 4) (h0 : 0 ≤ n) (h1 : n ≤ n0) (h2 : n ≤ n1) (hf : ∀ j, 0 ≤ j → j < n → fits (aty t) (.int (Int32.ofInt (gA G c0 r0 j))) = true) (hc : noJ st = true) (hc8 : st.length ≤ 8) (hb : n0 < 1000) (K0 : PWg l w M (d + 1) K k pc' ls st (uA G c1 r1 (cpyA G c0 r0 c1 r1 n)) Φ) :
    PWg l w M (d + 1) K k pc ls (vI n :: vI 0 :: vR c1 r1 :: vI 0 :: vR c0 r0 :: st) G Φ := by
  obtain ⟨idx, hd, hlk, ⟨hn, hst, hin⟩, rfl⟩ := hd
  intro p e s m args below meth c H locs lsr hC hW hO hS hL
  have hlv1 : lv w.1.2 c1 r1 := hO.2.1 (vR c1 r1) (List.mem_cons_of_mem _ (List.mem_cons_of_mem _ List.mem_cons_self))
  have hlv0 : lv w.1.2 c0 r0 := hO.2.1 (vR c0 r0) (List.mem_cons_of_mem _ (List.mem_cons_of_mem _ (List.mem_cons_of_mem _ (List.mem_cons_of_mem _ List.mem_cons_self))))
  obtain ⟨i0, -, e0⟩ := wl_at (w := w) (G := G) (cs_mem hlv0 (by rw [hs0]; exact Nat.le_refl _))
  obtain ⟨i1, hi1, e1⟩ := wl_at (w := w) (G := G) (cs_mem hlv1 (by rw [hs1]; exact Nat.le_refl _))
  rw [ent_i hs0 ht] at e0
  rw [ent_i hs1 ht] at e1
  have hset := wl_set (w := w) (G' := uA G c1 r1 (cpyA G c0 r0 c1 r1 n)) (e := .inl (w.2.2.1 t, n1, .inl (va_cpy (fun j : Nat => Int32.ofInt (gA G c0 r0 j)) (fun j : Nat => Int32.ofInt (gA G c1 r1 j)) 0 0 n.toNat))) hW.2 hi1 (by rw [ent_i hs1 ht, cpy_ent]) (fun c' r' h => ent_uA h)
  have hts := hC.2.2.2.2.2.1
  have g0 : (Int32.ofInt 0).toNatClampNeg = 0 := rfl
  have hnn : ¬ Int32.ofInt n < 0 ∧ (Int32.ofInt n).toNatClampNeg = n.toNat := by
    obtain ⟨a, b⟩ := of_in (i := n) (n := 1000) h0 (by omega) (by decide)
    exact ⟨fun q => a (Or.inl q), b⟩
  have hcat : ((st.map (rvv w)).map fun v => v.category).sum ≤ 8 := by rw [noJ_sum w st hc]; exact hc8
  refine va_copyi hC.1 hC.2.1 (by rw [hC.2.2.2.1]; exact hL.1.symm) hC.2.2.2.2.1 (hts _ hlk) (hts _ hn) (hts _ hst) (hts _ hin) hC.2.2.2.2.2.2.2.2.1.1 hW.1 hW.2 hS i0 i1 t t e0 e1 (tys_at (by omega)) (tys_at (by omega)) ?_ (by decide) (by decide) hnn.1 (by rw [g0, hnn.2]; omega) (by rw [g0, hnn.2]; omega) (fun i hi => ?_) (by show 1 ≤ d + 1; omega) ?_ hd (fun H1 locs1 hP hD hS1 => ?_)
  · rcases (show t = 0 ∨ t = 1 ∨ t = 2 ∨ t = 3 by omega) with e | e | e | e <;> subst e <;> rfl
  · rw [hnn.2] at hi
    rw [g0, Nat.zero_add]
    exact hf i (by omega) (by omega)
  · have := nfw
    show _ ≤ 48 * (d + 1)
    omega
  · rw [g0, hnn.2, hset] at hP hD
    exact K0 p e s m args below meth c H1 locs1 lsr hC ⟨hP, hD⟩ ⟨okG_uA hO.1 (fun j => by unfold cpyA; split; exact hO.1.2.1 _ _ _; exact hO.1.2.1 _ _ _), fun u hu => hO.2.1 u (List.mem_cons_of_mem _ (List.mem_cons_of_mem _ (List.mem_cons_of_mem _ (List.mem_cons_of_mem _ (List.mem_cons_of_mem _ hu))))), hO.2.2⟩ hS1 hL
/-! a search in its order, as a function of what it begins with -/
def iterN {α : Type} (f : Int → α → α) : Nat → α → α
  | 0, s => s
  | n + 1, s => f n (iterN f n s)
def iterI {α : Type} (f : Int → α → α) (n : Int) (s : α) : α := iterN f n.toNat s
theorem iter_0 {α : Type} (f : Int → α → α) (s : α) : iterI f 0 s = s := rfl
theorem iter_s {α : Type} (f : Int → α → α) {n : Int} (h : 0 ≤ n) (s : α) : iterI f (n + 1) s = f n (iterI f n s) := by
  unfold iterI
  rw [show (n + 1).toNat = n.toNat + 1 by omega, iterN, Int.toNat_of_nonneg h]
theorem iter_inv {α : Type} {f : Int → α → α} {p : α → Prop} {n : Int} {s : α} (hn : 0 ≤ n) (h0 : p s) (hs : ∀ i s, 0 ≤ i → i < n → p s → p (f i s)) : p (iterI f n s) := by
  refine nat_ind (p := fun m => m ≤ n → p (iterI f m s)) (fun _ => h0) (fun m hm ih hmn => ?_) n hn (Int.le_refl _)
  rw [iter_s f hm]
  exact hs m _ hm (by omega) (ih (by omega))
theorem iter_sim {α β : Type} {f : Int → α → α} {g : Int → β → β} {p : α → β → Prop} {n : Int} {s : α} {t : β} (hn : 0 ≤ n) (h0 : p s t) (hs : ∀ i s t, 0 ≤ i → i < n → p s t → p (f i s) (g i t)) : p (iterI f n s) (iterI g n t) := by
  refine nat_ind (p := fun m => m ≤ n → p (iterI f m s) (iterI g m t)) (fun _ => h0) (fun m hm ih hmn => ?_) n hn (Int.le_refl _)
  rw [iter_s f hm, iter_s g hm]
  exact hs m _ _ hm (by omega) (ih (by omega))
abbrev OSt : Type := (Int → Int) × Int × (Int → Int)
def cmN (go co T : Int → Int) (a : Int) : Nat → Int × Int
  | 0 => (0, 0)
  | m + 1 => if (cmN go co T a m).1 < a then ((cmN go co T a m).1 + go (T m), (cmN go co T a m).2 + co (T m)) else cmN go co T a m
def cmI (go co T : Int → Int) (a m : Int) : Int × Int := cmN go co T a m.toNat
theorem cm_0 (go co T : Int → Int) (a : Int) : cmI go co T a 0 = (0, 0) := rfl
theorem cm_s {go co T : Int → Int} {a m : Int} (h : 0 ≤ m) (hl : (cmI go co T a m).1 < a) : cmI go co T a (m + 1) = ((cmI go co T a m).1 + go (T m), (cmI go co T a m).2 + co (T m)) := by
  unfold cmI at hl ⊢
  rw [show (m + 1).toNat = m.toNat + 1 by omega, cmN, if_pos hl, Int.toNat_of_nonneg h]
theorem cm_k {go co T : Int → Int} {a m : Int} (h : 0 ≤ m) (hl : ¬ (cmI go co T a m).1 < a) : cmI go co T a (m + 1) = cmI go co T a m := by
  unfold cmI at hl ⊢
  rw [show (m + 1).toNat = m.toNat + 1 by omega, cmN, if_neg hl]
theorem cm_stop {go co T : Int → Int} {a i n : Int} (h : 0 ≤ i) (hn : i ≤ n) (hl : ¬ (cmI go co T a i).1 < a) : cmI go co T a n = cmI go co T a i := by
  have := nat_ind (p := fun k => cmI go co T a (i + k) = cmI go co T a i) (by rw [show i + 0 = i by omega]) (fun k hk ih => by rw [show i + (k + 1) = i + k + 1 by omega, cm_k (by omega) (by rw [ih]; exact hl), ih]) (n - i) (by omega)
  rw [show i + (n - i) = n by omega] at this
  exact this
def vlN (na : Int) (ai : Int → Int) (n : Int) (go co : Int → Int) (z : Int) (T : Int → Int) : Nat → Int
  | 0 => z
  | m + 1 => min (vlN na ai n go co z T m) (cmI go co T (ai m) n).2
def vlI (ai : Int → Int) (n : Int) (go co : Int → Int) (z : Int) (T : Int → Int) (m : Int) : Int := vlN 0 ai n go co z T m.toNat
theorem vl_0 (ai : Int → Int) (n : Int) (go co : Int → Int) (z : Int) (T : Int → Int) : vlI ai n go co z T 0 = z := rfl
theorem vl_s (ai : Int → Int) (n : Int) (go co : Int → Int) (z : Int) (T : Int → Int) {m : Int} (h : 0 ≤ m) : vlI ai n go co z T (m + 1) = min (vlI ai n go co z T m) (cmI go co T (ai m) n).2 := by
  unfold vlI
  rw [show (m + 1).toNat = m.toNat + 1 by omega, vlN, Int.toNat_of_nonneg h]
def ordN (n : Int) (vl : (Int → Int) → Int) (cp : Int) : Nat → Int → Int → OSt → OSt
  | 0, _, _, s => s
  | k + 1, p, u, s => if n ≤ p then (if s.2.1 < vl s.1 then (s.1, vl s.1, cpF s.1 s.2.2 cp) else s) else
      iterI (fun i s => if pAnd (pShr u i) 1 = 0 then ordN n vl cp k (p + 1) (pOr u (pShl 1 i)) (upA s.1 p i, s.2) else s) n s
def ordS (n : Int) (vl : (Int → Int) → Int) (cp : Int) (k : Nat) (p u : Int) : Int → OSt → OSt := fun i s => if pAnd (pShr u i) 1 = 0 then ordN n vl cp k (p + 1) (pOr u (pShl 1 i)) (upA s.1 p i, s.2) else s
theorem ord_loop {n : Int} {vl : (Int → Int) → Int} {cp : Int} {k : Nat} {p u : Int} {s : OSt} (h : p < n) : ordN n vl cp (k + 1) p u s = iterI (ordS n vl cp k p u) n s := by
  show (if n ≤ p then _ else _) = _
  rw [if_neg (by omega)]
  rfl
theorem ord_better {n : Int} {vl : (Int → Int) → Int} {cp : Int} {k : Nat} {p u : Int} {s : OSt} (h : n ≤ p) (hb : s.2.1 < vl s.1) : ordN n vl cp (k + 1) p u s = (s.1, vl s.1, cpF s.1 s.2.2 cp) := by
  show (if n ≤ p then _ else _) = _
  rw [if_pos h, if_pos hb]
theorem ord_not {n : Int} {vl : (Int → Int) → Int} {cp : Int} {k : Nat} {p u : Int} {s : OSt} (h : n ≤ p) (hb : ¬ s.2.1 < vl s.1) : ordN n vl cp (k + 1) p u s = s := by
  show (if n ≤ p then _ else _) = _
  rw [if_pos h, if_neg hb]
theorem ordS_t {n : Int} {vl : (Int → Int) → Int} {cp : Int} {k : Nat} {p u i : Int} {s : OSt} (h : pAnd (pShr u i) 1 = 0) : ordS n vl cp k p u i s = ordN n vl cp k (p + 1) (pOr u (pShl 1 i)) (upA s.1 p i, s.2) := if_pos h
theorem ordS_f {n : Int} {vl : (Int → Int) → Int} {cp : Int} {k : Nat} {p u i : Int} {s : OSt} (h : pAnd (pShr u i) 1 ≠ 0) : ordS n vl cp k p u i s = s := if_neg h
theorem ord_keep {n : Int} {vl : (Int → Int) → Int} {cp : Int} (hn : 0 ≤ n) : ∀ {k : Nat} {p u : Int} {s : OSt} {j : Int}, j < p → (ordN n vl cp k p u s).1 j = s.1 j
  | 0, _, _, _, _, _ => rfl
  | k + 1, p, u, s, j, hj => by
    rcases Int.lt_or_le p n with h | h
    · rw [ord_loop h]
      refine iter_inv (p := fun t : OSt => t.1 j = s.1 j) hn rfl fun i t i0 i1 ht => ?_
      by_cases e : pAnd (pShr u i) 1 = 0
      · rw [ordS_t e, ord_keep hn (show j < p + 1 by omega)]
        show upA t.1 p i j = s.1 j
        rw [upA_ne (by omega)]
        exact ht
      · rw [ordS_f e]; exact ht
    · by_cases e : s.2.1 < vl s.1
      · rw [ord_better h e]
      · rw [ord_not h e]
theorem ord_sim {n cp cp1 : Int} {vl vl1 : (Int → Int) → Int} (hn : 0 ≤ n) (hc : n ≤ cp) (hc1 : n ≤ cp1) (hv : ∀ T T1 : Int → Int, (∀ j, 0 ≤ j → j < n → T1 j = T j ∧ 0 ≤ T j ∧ T j < n) → vl1 T1 = vl T) : ∀ {k : Nat} {p u : Int} {s t : OSt}, 0 ≤ p → p ≤ n →
    ((∀ j, 0 ≤ j → j < p → t.1 j = s.1 j ∧ 0 ≤ s.1 j ∧ s.1 j < n) ∧ t.2.1 = s.2.1 ∧ ∀ j, 0 ≤ j → j < n → t.2.2 j = s.2.2 j) →
    ((∀ j, 0 ≤ j → j < p → (ordN n vl1 cp1 k p u t).1 j = (ordN n vl cp k p u s).1 j ∧ 0 ≤ (ordN n vl cp k p u s).1 j ∧ (ordN n vl cp k p u s).1 j < n) ∧ (ordN n vl1 cp1 k p u t).2.1 = (ordN n vl cp k p u s).2.1 ∧ ∀ j, 0 ≤ j → j < n → (ordN n vl1 cp1 k p u t).2.2 j = (ordN n vl cp k p u s).2.2 j)
  | 0, _, _, _, _, _, _, h => h
  | k + 1, p, u, s, t, h0, h1, h => by
    rcases Int.lt_or_le p n with hp | hp
    · rw [ord_loop hp, ord_loop hp]
      refine iter_sim (p := fun (t s : OSt) => (∀ j, 0 ≤ j → j < p → t.1 j = s.1 j ∧ 0 ≤ s.1 j ∧ s.1 j < n) ∧ t.2.1 = s.2.1 ∧ ∀ j, 0 ≤ j → j < n → t.2.2 j = s.2.2 j) hn h fun i t s i0 i1 hts => ?_
      by_cases e : pAnd (pShr u i) 1 = 0
      · rw [ordS_t e, ordS_t e]
        have h9 := ord_sim hn hc hc1 hv (k := k) (p := p + 1) (u := pOr u (pShl 1 i)) (s := (upA s.1 p i, s.2)) (t := (upA t.1 p i, t.2)) (by omega) (by omega) ⟨fun j j0 j1 => by
          show upA t.1 p i j = upA s.1 p i j ∧ 0 ≤ upA s.1 p i j ∧ upA s.1 p i j < n
          by_cases z : j = p
          · rw [z, upA_same, upA_same]; exact ⟨rfl, i0, i1⟩
          · rw [upA_ne z, upA_ne z]; exact hts.1 j j0 (by omega), hts.2.1, hts.2.2⟩
        exact ⟨fun j j0 j1 => h9.1 j j0 (by omega), h9.2⟩
      · rw [ordS_f e, ordS_f e]; exact hts
    · have e1 := hv s.1 t.1 (fun j j0 j1 => h.1 j j0 (by omega))
      by_cases e : s.2.1 < vl s.1
      · rw [ord_better hp e, ord_better hp (by rw [e1, h.2.1]; exact e)]
        exact ⟨h.1, e1, fun j j0 j1 => by show cpF t.1 t.2.2 cp1 j = cpF s.1 s.2.2 cp j; rw [cpF_in j0 (by omega), cpF_in j0 (by omega)]; exact (h.1 j j0 (by omega)).1⟩
      · rw [ord_not hp e, ord_not hp (by rw [e1, h.2.1]; exact e)]
        exact h
theorem cmv_eq {go co go1 co1 T T1 : Int → Int} {a n : Int} (hn : 0 ≤ n) (hT : ∀ j, 0 ≤ j → j < n → T1 j = T j ∧ 0 ≤ T j ∧ T j < n) (hg : ∀ j, 0 ≤ j → j < n → (go1 j = go j ∧ 0 ≤ go j ∧ go j ≤ 99) ∧ co1 j = co j ∧ 0 ≤ co j ∧ co j ≤ 99) : cmI go1 co1 T1 a n = cmI go co T a n ∧ 0 ≤ (cmI go co T a n).2 ∧ (cmI go co T a n).2 ≤ 99 * n := by
  refine nat_ind (p := fun m => m ≤ n → cmI go1 co1 T1 a m = cmI go co T a m ∧ 0 ≤ (cmI go co T a m).2 ∧ (cmI go co T a m).2 ≤ 99 * m) (fun _ => ⟨rfl, by rw [cm_0]; decide⟩) (fun m hm ih hmn => ?_) n hn (Int.le_refl _)
  obtain ⟨h1, h2, h3⟩ := ih (by omega)
  have ht := hT m hm (by omega)
  have hgt := hg (T m) ht.2.1 ht.2.2
  by_cases e : (cmI go co T a m).1 < a
  · rw [cm_s hm e, cm_s hm (by rw [h1]; exact e), h1, ht.1, hgt.1.1, hgt.2.1]
    refine ⟨rfl, ?_, ?_⟩
    · show 0 ≤ (cmI go co T a m).2 + co (T m); omega
    · show (cmI go co T a m).2 + co (T m) ≤ 99 * (m + 1); omega
  · rw [cm_k hm e, cm_k hm (by rw [h1]; exact e)]
    exact ⟨h1, h2, by omega⟩
theorem vl_eq {ai ai1 go co go1 co1 T T1 : Int → Int} {n m z z1 : Int} (hn : 0 ≤ n ∧ n ≤ 6) (hm : 0 < m) (hz : 594 ≤ z) (hz1 : 594 ≤ z1) (hT : ∀ j, 0 ≤ j → j < n → T1 j = T j ∧ 0 ≤ T j ∧ T j < n) (hg : ∀ j, 0 ≤ j → j < n → (go1 j = go j ∧ 0 ≤ go j ∧ go j ≤ 99) ∧ co1 j = co j ∧ 0 ≤ co j ∧ co j ≤ 99) (ha : ∀ j, 0 ≤ j → j < m → ai1 j = ai j) : vlI ai1 n go1 co1 z1 T1 m = vlI ai n go co z T m := by
  have key : ∀ k, 0 ≤ k → k ≤ m → (k = 0 ∨ vlI ai1 n go1 co1 z1 T1 k = vlI ai n go co z T k) := nat_ind (p := fun k => k ≤ m → (k = 0 ∨ vlI ai1 n go1 co1 z1 T1 k = vlI ai n go co z T k)) (fun _ => Or.inl rfl) (fun k hk ih hkm => by
    refine Or.inr ?_
    obtain ⟨c1, c2, c3⟩ := cmv_eq (a := ai k) hn.1 hT hg
    rw [vl_s _ _ _ _ _ _ hk, vl_s _ _ _ _ _ _ hk, ha k hk (by omega), c1]
    rcases ih (by omega) with e | e
    · subst e
      rw [vl_0, vl_0]
      omega
    · rw [e])
  rcases key m (by omega) (Int.le_refl _) with e | e
  · omega
  · exact e
theorem fil_cpF (f g : Int → Int) (n : Int) : filF (fun _ => True) f g n = cpF f g n := by
  funext j
  unfold cpF
  by_cases h : 0 ≤ j ∧ j < n
  · rw [if_pos h, fil_t (q := fun _ => True) h.1 h.2 trivial]
  · rw [if_neg h, fil_f (fun z => h ⟨z.1, z.2.1⟩)]

theorem wd_f6_21 : Cond.fieldLink "NameRolls$Rounds" 21 "NameRolls$Rounds" "trial" "[I" ∈ UW := UW2_at 215 (by decide +kernel) rfl
theorem wd_c6_55 : Cond.constant "NameRolls$Rounds" 55 (Int32.ofInt 1000000000) ∈ UW := UW6_at 192 (by decide +kernel) rfl
theorem wd_f6_38 : Cond.fieldLink "NameRolls$Rounds" 38 "NameRolls$Rounds" "most" "I" ∈ UW := UW2_at 216 (by decide +kernel) rfl
theorem wd_m6_66 : Cond.methodLink "NameRolls$Rounds" 66 arraycopyName ∈ UW := UW6_at 198 (by decide +kernel) rfl
theorem wd_m6_56 : Cond.methodLink "NameRolls$Rounds" 56 M_X6_comeTill.1 ∈ UW := UW6_at 193 (by decide +kernel) rfl
theorem wd_s6_comeTill : Cond.selects M_X6_comeTill.1.cls M_X6_comeTill.1 M_X6_comeTill.1 ∈ UW := UWp_at 54 (by decide +kernel) rfl
theorem wd_m6_60 : Cond.methodLink "NameRolls$Rounds" 60 Lib.Math.min.name ∈ UW := UW6_at 197 (by decide +kernel) rfl
theorem wd_m6_48 : Cond.methodLink "NameRolls$Rounds" 48 M_X6_keepIfBetter.1 ∈ UW := UW6_at 188 (by decide +kernel) rfl
theorem wd_s6_keepIfBetter : Cond.selects M_X6_keepIfBetter.1.cls M_X6_keepIfBetter.1 M_X6_keepIfBetter.1 ∈ UW := UWp_at 53 (by decide +kernel) rfl
theorem wd_m6_51 : Cond.methodLink "NameRolls$Rounds" 51 M_X6_tryWith.1 ∈ UW := UW6_at 199 (by decide +kernel) rfl
theorem wd_s6_tryWith : Cond.selects M_X6_tryWith.1.cls M_X6_tryWith.1 M_X6_tryWith.1 ∈ UW := UWp_at 55 (by decide +kernel) rfl
theorem wd_m6_44 : Cond.methodLink "NameRolls$Rounds" 44 M_X6_tryFrom.1 ∈ UW := UW6_at 184 (by decide +kernel) rfl
theorem wd_s6_tryFrom : Cond.selects M_X6_tryFrom.1.cls M_X6_tryFrom.1 M_X6_tryFrom.1 ∈ UW := UWp_at 52 (by decide +kernel) rfl
theorem wd_f12_222 : Cond.fieldLink "NameRollsModel" 222 "NameRollsModel" "row0" "[I" ∈ UW := UW7_at 167 (by decide +kernel) rfl
theorem wd_m12_510 : Cond.methodLink "NameRollsModel" 510 M_X12_orders.1 ∈ UW := UW10_at 69 (by decide +kernel) rfl
theorem wd_s12_orders : Cond.selects M_X12_orders.1.cls M_X12_orders.1 M_X12_orders.1 ∈ UW := UWp_at 101 (by decide +kernel) rfl
theorem wd_m12_504 : Cond.methodLink "NameRollsModel" 504 M_X12_leastCome.1 ∈ UW := UW10_at 73 (by decide +kernel) rfl
theorem wd_s12_leastCome : Cond.selects M_X12_leastCome.1.cls M_X12_leastCome.1 M_X12_leastCome.1 ∈ UW := UWp_at 102 (by decide +kernel) rfl
theorem wd_f12_507 : Cond.fieldLink "NameRollsModel" 507 "NameRollsModel" "bestLeast" "I" ∈ UW := UW7_at 170 (by decide +kernel) rfl
theorem wd_m11_225 : Cond.methodLink "NameRolls" 225 M_X6_arrange.1 ∈ UW := UW6_at 180 (by decide +kernel) rfl
theorem wd_s6_arrange : Cond.selects M_X6_arrange.1.cls M_X6_arrange.1 M_X6_arrange.1 ∈ UW := UW6_at 182 (by decide +kernel) rfl
theorem r_6_comeTill_0 : RC M_X6_comeTill 0 0 1 := ⟨⟨by decide, by decide⟩, Or.inl ⟨by decide +kernel, rfl⟩⟩
theorem r_6_comeTill_1 : RS M_X6_comeTill 1 2 2 := ⟨by decide, Or.inl ⟨2, by decide +kernel, rfl, rfl⟩⟩
theorem r_6_comeTill_2 : RC M_X6_comeTill 2 0 3 := ⟨⟨by decide, by decide⟩, Or.inl ⟨by decide +kernel, rfl⟩⟩
theorem r_6_comeTill_3 : RS M_X6_comeTill 3 3 4 := ⟨by decide, Or.inl ⟨3, by decide +kernel, rfl, rfl⟩⟩
theorem r_6_comeTill_4 : RC M_X6_comeTill 4 0 5 := ⟨⟨by decide, by decide⟩, Or.inl ⟨by decide +kernel, rfl⟩⟩
theorem r_6_comeTill_5 : RS M_X6_comeTill 5 4 7 := ⟨by decide, Or.inr ⟨by decide +kernel, rfl⟩⟩
theorem r_6_comeTill_7 : RL M_X6_comeTill 7 4 9 := Or.inr ⟨by decide +kernel, rfl⟩
theorem r_6_comeTill_9 : RA M_X6_comeTill 9 0 10 := Or.inl ⟨0, by decide +kernel, rfl, rfl⟩
theorem r_6_comeTill_10 : RG M_X6_comeTill 10 6 2 13 := ⟨31, _, by decide +kernel, rfl, by decide, wd_f6_31, rfl, rfl⟩
theorem r_6_comeTill_13 : RB M_X6_comeTill 13 (.if_icmp .ge) 57 16 := ⟨44, by decide +kernel, rfl, rfl⟩
theorem r_6_comeTill_57 : RL M_X6_comeTill 57 3 58 := Or.inl ⟨3, by decide +kernel, rfl, rfl⟩
theorem r_6_comeTill_58 : RW M_X6_comeTill 58 .ireturn 59 1 := ⟨by decide +kernel, rfl⟩
theorem r_6_comeTill_16 : RL M_X6_comeTill 16 2 17 := Or.inl ⟨2, by decide +kernel, rfl, rfl⟩
theorem r_6_comeTill_17 : RL M_X6_comeTill 17 1 18 := Or.inl ⟨1, by decide +kernel, rfl, rfl⟩
theorem r_6_comeTill_18 : RB M_X6_comeTill 18 (.if_icmp .ge) 57 21 := ⟨39, by decide +kernel, rfl, rfl⟩
theorem r_6_comeTill_21 : RL M_X6_comeTill 21 2 22 := Or.inl ⟨2, by decide +kernel, rfl, rfl⟩
theorem r_6_comeTill_22 : RA M_X6_comeTill 22 0 23 := Or.inl ⟨0, by decide +kernel, rfl, rfl⟩
theorem r_6_comeTill_23 : RG M_X6_comeTill 23 6 0 26 := ⟨11, _, by decide +kernel, rfl, by decide, wd_f6_11, rfl, rfl⟩
theorem r_6_comeTill_26 : RA M_X6_comeTill 26 0 27 := Or.inl ⟨0, by decide +kernel, rfl, rfl⟩
theorem r_6_comeTill_27 : RG M_X6_comeTill 27 6 5 30 := ⟨21, _, by decide +kernel, rfl, by decide, wd_f6_21, rfl, rfl⟩
theorem r_6_comeTill_30 : RL M_X6_comeTill 30 4 32 := Or.inr ⟨by decide +kernel, rfl⟩
theorem r_6_comeTill_32 : RW M_X6_comeTill 32 .iaload 33 1 := ⟨by decide +kernel, rfl⟩
theorem r_6_comeTill_33 : RW M_X6_comeTill 33 .iaload 34 1 := ⟨by decide +kernel, rfl⟩
theorem r_6_comeTill_34 : RW M_X6_comeTill 34 .iadd 35 1 := ⟨by decide +kernel, rfl⟩
theorem r_6_comeTill_35 : RS M_X6_comeTill 35 2 36 := ⟨by decide, Or.inl ⟨2, by decide +kernel, rfl, rfl⟩⟩
theorem r_6_comeTill_36 : RL M_X6_comeTill 36 3 37 := Or.inl ⟨3, by decide +kernel, rfl, rfl⟩
theorem r_6_comeTill_37 : RA M_X6_comeTill 37 0 38 := Or.inl ⟨0, by decide +kernel, rfl, rfl⟩
theorem r_6_comeTill_38 : RG M_X6_comeTill 38 6 1 41 := ⟨15, _, by decide +kernel, rfl, by decide, wd_f6_15, rfl, rfl⟩
theorem r_6_comeTill_41 : RA M_X6_comeTill 41 0 42 := Or.inl ⟨0, by decide +kernel, rfl, rfl⟩
theorem r_6_comeTill_42 : RG M_X6_comeTill 42 6 5 45 := ⟨21, _, by decide +kernel, rfl, by decide, wd_f6_21, rfl, rfl⟩
theorem r_6_comeTill_45 : RL M_X6_comeTill 45 4 47 := Or.inr ⟨by decide +kernel, rfl⟩
theorem r_6_comeTill_47 : RW M_X6_comeTill 47 .iaload 48 1 := ⟨by decide +kernel, rfl⟩
theorem r_6_comeTill_48 : RW M_X6_comeTill 48 .iaload 49 1 := ⟨by decide +kernel, rfl⟩
theorem r_6_comeTill_49 : RW M_X6_comeTill 49 .iadd 50 1 := ⟨by decide +kernel, rfl⟩
theorem r_6_comeTill_50 : RS M_X6_comeTill 50 3 51 := ⟨by decide, Or.inl ⟨3, by decide +kernel, rfl, rfl⟩⟩
theorem r_6_comeTill_51 : RI M_X6_comeTill 51 4 1 54 := ⟨by decide, by decide +kernel, rfl⟩
theorem r_6_comeTill_54 : RB M_X6_comeTill 54 .goto 7 57 := ⟨(-47), by decide +kernel, rfl, rfl⟩
theorem r_6_keepIfBetter_0 : RC M_X6_keepIfBetter 0 1000000000 2 := ⟨⟨by decide, by decide⟩, Or.inr (Or.inr (Or.inr (Or.inl ⟨55, by decide +kernel, wd_c6_55, rfl⟩)))⟩
theorem r_6_keepIfBetter_2 : RS M_X6_keepIfBetter 2 1 3 := ⟨by decide, Or.inl ⟨1, by decide +kernel, rfl, rfl⟩⟩
theorem r_6_keepIfBetter_3 : RC M_X6_keepIfBetter 3 0 4 := ⟨⟨by decide, by decide⟩, Or.inl ⟨by decide +kernel, rfl⟩⟩
theorem r_6_keepIfBetter_4 : RS M_X6_keepIfBetter 4 2 5 := ⟨by decide, Or.inl ⟨2, by decide +kernel, rfl, rfl⟩⟩
theorem r_6_keepIfBetter_5 : RL M_X6_keepIfBetter 5 2 6 := Or.inl ⟨2, by decide +kernel, rfl, rfl⟩
theorem r_6_keepIfBetter_6 : RA M_X6_keepIfBetter 6 0 7 := Or.inl ⟨0, by decide +kernel, rfl, rfl⟩
theorem r_6_keepIfBetter_7 : RG M_X6_keepIfBetter 7 6 4 10 := ⟨35, _, by decide +kernel, rfl, by decide, wd_f6_35, rfl, rfl⟩
theorem r_6_keepIfBetter_10 : RB M_X6_keepIfBetter 10 (.if_icmp .ge) 34 13 := ⟨24, by decide +kernel, rfl, rfl⟩
theorem r_6_keepIfBetter_34 : RL M_X6_keepIfBetter 34 1 35 := Or.inl ⟨1, by decide +kernel, rfl, rfl⟩
theorem r_6_keepIfBetter_35 : RA M_X6_keepIfBetter 35 0 36 := Or.inl ⟨0, by decide +kernel, rfl, rfl⟩
theorem r_6_keepIfBetter_36 : RG M_X6_keepIfBetter 36 6 6 39 := ⟨38, _, by decide +kernel, rfl, by decide, wd_f6_38, rfl, rfl⟩
theorem r_6_keepIfBetter_39 : RB M_X6_keepIfBetter 39 (.if_icmp .le) 62 42 := ⟨23, by decide +kernel, rfl, rfl⟩
theorem r_6_keepIfBetter_62 : RW M_X6_keepIfBetter 62 .return_ 63 1 := ⟨by decide +kernel, rfl⟩
theorem r_6_keepIfBetter_42 : RA M_X6_keepIfBetter 42 0 43 := Or.inl ⟨0, by decide +kernel, rfl, rfl⟩
theorem r_6_keepIfBetter_43 : RL M_X6_keepIfBetter 43 1 44 := Or.inl ⟨1, by decide +kernel, rfl, rfl⟩
theorem r_6_keepIfBetter_44 : RP M_X6_keepIfBetter 44 6 6 47 := ⟨38, _, by decide +kernel, rfl, by decide, wd_f6_38, rfl, Or.inl rfl, rfl⟩
theorem r_6_keepIfBetter_47 : RA M_X6_keepIfBetter 47 0 48 := Or.inl ⟨0, by decide +kernel, rfl, rfl⟩
theorem r_6_keepIfBetter_48 : RG M_X6_keepIfBetter 48 6 5 51 := ⟨21, _, by decide +kernel, rfl, by decide, wd_f6_21, rfl, rfl⟩
theorem r_6_keepIfBetter_51 : RC M_X6_keepIfBetter 51 0 52 := ⟨⟨by decide, by decide⟩, Or.inl ⟨by decide +kernel, rfl⟩⟩
theorem r_6_keepIfBetter_52 : RA M_X6_keepIfBetter 52 0 53 := Or.inl ⟨0, by decide +kernel, rfl, rfl⟩
theorem r_6_keepIfBetter_53 : RG M_X6_keepIfBetter 53 6 7 56 := ⟨24, _, by decide +kernel, rfl, by decide, wd_f6_24, rfl, rfl⟩
theorem r_6_keepIfBetter_56 : RC M_X6_keepIfBetter 56 0 57 := ⟨⟨by decide, by decide⟩, Or.inl ⟨by decide +kernel, rfl⟩⟩
theorem r_6_keepIfBetter_57 : RC M_X6_keepIfBetter 57 6 59 := ⟨⟨by decide, by decide⟩, Or.inr (Or.inl ⟨by decide +kernel, by decide, rfl⟩)⟩
theorem r_6_keepIfBetter_59 : RAC M_X6_keepIfBetter 59 62 := ⟨66, by decide +kernel, wd_m6_66, acp_ok, rfl⟩
theorem r_6_keepIfBetter_13 : RL M_X6_keepIfBetter 13 1 14 := Or.inl ⟨1, by decide +kernel, rfl, rfl⟩
theorem r_6_keepIfBetter_14 : RA M_X6_keepIfBetter 14 0 15 := Or.inl ⟨0, by decide +kernel, rfl, rfl⟩
theorem r_6_keepIfBetter_15 : RA M_X6_keepIfBetter 15 0 16 := Or.inl ⟨0, by decide +kernel, rfl, rfl⟩
theorem r_6_keepIfBetter_16 : RG M_X6_keepIfBetter 16 6 3 19 := ⟨18, _, by decide +kernel, rfl, by decide, wd_f6_18, rfl, rfl⟩
theorem r_6_keepIfBetter_19 : RL M_X6_keepIfBetter 19 2 20 := Or.inl ⟨2, by decide +kernel, rfl, rfl⟩
theorem r_6_keepIfBetter_20 : RW M_X6_keepIfBetter 20 .iaload 21 1 := ⟨by decide +kernel, rfl⟩
theorem r_6_keepIfBetter_21 : RKv M_X6_keepIfBetter M_X6_comeTill 21 1 6 24 := ⟨56, by decide +kernel, wd_m6_56, ok_M_X6_comeTill, wd_s6_comeTill, rfl⟩
theorem r_6_keepIfBetter_24 : RKm M_X6_keepIfBetter 24 Lib.Math.min.name 27 := ⟨60, by decide +kernel, wd_m6_60, rfl⟩
theorem r_6_keepIfBetter_27 : RS M_X6_keepIfBetter 27 1 28 := ⟨by decide, Or.inl ⟨1, by decide +kernel, rfl, rfl⟩⟩
theorem r_6_keepIfBetter_28 : RI M_X6_keepIfBetter 28 2 1 31 := ⟨by decide, by decide +kernel, rfl⟩
theorem r_6_keepIfBetter_31 : RB M_X6_keepIfBetter 31 .goto 5 34 := ⟨(-26), by decide +kernel, rfl, rfl⟩
theorem r_6_tryFrom_0 : RL M_X6_tryFrom 0 1 1 := Or.inl ⟨1, by decide +kernel, rfl, rfl⟩
theorem r_6_tryFrom_1 : RA M_X6_tryFrom 1 0 2 := Or.inl ⟨0, by decide +kernel, rfl, rfl⟩
theorem r_6_tryFrom_2 : RG M_X6_tryFrom 2 6 2 5 := ⟨31, _, by decide +kernel, rfl, by decide, wd_f6_31, rfl, rfl⟩
theorem r_6_tryFrom_5 : RB M_X6_tryFrom 5 (.if_icmp .ge) 14 8 := ⟨9, by decide +kernel, rfl, rfl⟩
theorem r_6_tryFrom_14 : RA M_X6_tryFrom 14 0 15 := Or.inl ⟨0, by decide +kernel, rfl, rfl⟩
theorem r_6_tryFrom_15 : RKv M_X6_tryFrom M_X6_keepIfBetter 15 0 6 18 := ⟨48, by decide +kernel, wd_m6_48, ok_M_X6_keepIfBetter, wd_s6_keepIfBetter, rfl⟩
theorem r_6_tryFrom_18 : RW M_X6_tryFrom 18 .return_ 19 1 := ⟨by decide +kernel, rfl⟩
theorem r_6_tryFrom_8 : RL M_X6_tryFrom 8 1 9 := Or.inl ⟨1, by decide +kernel, rfl, rfl⟩
theorem r_6_tryFrom_9 : RC M_X6_tryFrom 9 6 11 := ⟨⟨by decide, by decide⟩, Or.inr (Or.inl ⟨by decide +kernel, by decide, rfl⟩)⟩
theorem r_6_tryFrom_11 : RB M_X6_tryFrom 11 (.if_icmp .lt) 19 14 := ⟨8, by decide +kernel, rfl, rfl⟩
theorem r_6_tryFrom_19 : RC M_X6_tryFrom 19 0 20 := ⟨⟨by decide, by decide⟩, Or.inl ⟨by decide +kernel, rfl⟩⟩
theorem r_6_tryFrom_20 : RS M_X6_tryFrom 20 3 21 := ⟨by decide, Or.inl ⟨3, by decide +kernel, rfl, rfl⟩⟩
theorem r_6_tryFrom_21 : RL M_X6_tryFrom 21 3 22 := Or.inl ⟨3, by decide +kernel, rfl, rfl⟩
theorem r_6_tryFrom_22 : RA M_X6_tryFrom 22 0 23 := Or.inl ⟨0, by decide +kernel, rfl, rfl⟩
theorem r_6_tryFrom_23 : RG M_X6_tryFrom 23 6 2 26 := ⟨31, _, by decide +kernel, rfl, by decide, wd_f6_31, rfl, rfl⟩
theorem r_6_tryFrom_26 : RB M_X6_tryFrom 26 (.if_icmp .ge) 54 29 := ⟨28, by decide +kernel, rfl, rfl⟩
theorem r_6_tryFrom_54 : RW M_X6_tryFrom 54 .return_ 55 1 := ⟨by decide +kernel, rfl⟩
theorem r_6_tryFrom_29 : RL M_X6_tryFrom 29 2 30 := Or.inl ⟨2, by decide +kernel, rfl, rfl⟩
theorem r_6_tryFrom_30 : RL M_X6_tryFrom 30 3 31 := Or.inl ⟨3, by decide +kernel, rfl, rfl⟩
theorem r_6_tryFrom_31 : RW M_X6_tryFrom 31 .ishr 32 1 := ⟨by decide +kernel, rfl⟩
theorem r_6_tryFrom_32 : RC M_X6_tryFrom 32 1 33 := ⟨⟨by decide, by decide⟩, Or.inl ⟨by decide +kernel, rfl⟩⟩
theorem r_6_tryFrom_33 : RW M_X6_tryFrom 33 .iand 34 1 := ⟨by decide +kernel, rfl⟩
theorem r_6_tryFrom_34 : RB M_X6_tryFrom 34 (.ifCond .ne) 48 37 := ⟨14, by decide +kernel, rfl, rfl⟩
theorem r_6_tryFrom_48 : RI M_X6_tryFrom 48 3 1 51 := ⟨by decide, by decide +kernel, rfl⟩
theorem r_6_tryFrom_51 : RB M_X6_tryFrom 51 .goto 21 54 := ⟨(-30), by decide +kernel, rfl, rfl⟩
theorem r_6_tryFrom_37 : RA M_X6_tryFrom 37 0 38 := Or.inl ⟨0, by decide +kernel, rfl, rfl⟩
theorem r_6_tryFrom_38 : RL M_X6_tryFrom 38 3 39 := Or.inl ⟨3, by decide +kernel, rfl, rfl⟩
theorem r_6_tryFrom_39 : RL M_X6_tryFrom 39 1 40 := Or.inl ⟨1, by decide +kernel, rfl, rfl⟩
theorem r_6_tryFrom_40 : RL M_X6_tryFrom 40 2 41 := Or.inl ⟨2, by decide +kernel, rfl, rfl⟩
theorem r_6_tryFrom_41 : RC M_X6_tryFrom 41 1 42 := ⟨⟨by decide, by decide⟩, Or.inl ⟨by decide +kernel, rfl⟩⟩
theorem r_6_tryFrom_42 : RL M_X6_tryFrom 42 3 43 := Or.inl ⟨3, by decide +kernel, rfl, rfl⟩
theorem r_6_tryFrom_43 : RW M_X6_tryFrom 43 .ishl 44 1 := ⟨by decide +kernel, rfl⟩
theorem r_6_tryFrom_44 : RW M_X6_tryFrom 44 .ior 45 1 := ⟨by decide +kernel, rfl⟩
theorem r_6_tryFrom_45 : RKv M_X6_tryFrom M_X6_tryWith 45 3 6 48 := ⟨51, by decide +kernel, wd_m6_51, ok_M_X6_tryWith, wd_s6_tryWith, rfl⟩
theorem r_6_tryWith_0 : RA M_X6_tryWith 0 0 1 := Or.inl ⟨0, by decide +kernel, rfl, rfl⟩
theorem r_6_tryWith_1 : RG M_X6_tryWith 1 6 5 4 := ⟨21, _, by decide +kernel, rfl, by decide, wd_f6_21, rfl, rfl⟩
theorem r_6_tryWith_4 : RL M_X6_tryWith 4 2 5 := Or.inl ⟨2, by decide +kernel, rfl, rfl⟩
theorem r_6_tryWith_5 : RL M_X6_tryWith 5 1 6 := Or.inl ⟨1, by decide +kernel, rfl, rfl⟩
theorem r_6_tryWith_6 : RW M_X6_tryWith 6 .iastore 7 1 := ⟨by decide +kernel, rfl⟩
theorem r_6_tryWith_7 : RA M_X6_tryWith 7 0 8 := Or.inl ⟨0, by decide +kernel, rfl, rfl⟩
theorem r_6_tryWith_8 : RL M_X6_tryWith 8 2 9 := Or.inl ⟨2, by decide +kernel, rfl, rfl⟩
theorem r_6_tryWith_9 : RC M_X6_tryWith 9 1 10 := ⟨⟨by decide, by decide⟩, Or.inl ⟨by decide +kernel, rfl⟩⟩
theorem r_6_tryWith_10 : RW M_X6_tryWith 10 .iadd 11 1 := ⟨by decide +kernel, rfl⟩
theorem r_6_tryWith_11 : RL M_X6_tryWith 11 3 12 := Or.inl ⟨3, by decide +kernel, rfl, rfl⟩
theorem r_6_tryWith_12 : RKv M_X6_tryWith M_X6_tryFrom 12 2 6 15 := ⟨44, by decide +kernel, wd_m6_44, ok_M_X6_tryFrom, wd_s6_tryFrom, rfl⟩
theorem r_6_tryWith_15 : RW M_X6_tryWith 15 .return_ 16 1 := ⟨by decide +kernel, rfl⟩
theorem r_6_arrange_0 : RA M_X6_arrange 0 0 1 := Or.inl ⟨0, by decide +kernel, rfl, rfl⟩
theorem r_6_arrange_1 : RG M_X6_arrange 1 6 2 4 := ⟨31, _, by decide +kernel, rfl, by decide, wd_f6_31, rfl, rfl⟩
theorem r_6_arrange_4 : RB M_X6_arrange 4 (.ifCond .eq) 14 7 := ⟨10, by decide +kernel, rfl, rfl⟩
theorem r_6_arrange_14 : RC M_X6_arrange 14 (-3) 16 := ⟨⟨by decide, by decide⟩, Or.inr (Or.inl ⟨by decide +kernel, by decide, rfl⟩)⟩
theorem r_6_arrange_16 : RW M_X6_arrange 16 .ireturn 17 1 := ⟨by decide +kernel, rfl⟩
theorem r_6_arrange_7 : RA M_X6_arrange 7 0 8 := Or.inl ⟨0, by decide +kernel, rfl, rfl⟩
theorem r_6_arrange_8 : RG M_X6_arrange 8 6 4 11 := ⟨35, _, by decide +kernel, rfl, by decide, wd_f6_35, rfl, rfl⟩
theorem r_6_arrange_11 : RB M_X6_arrange 11 (.ifCond .ne) 17 14 := ⟨6, by decide +kernel, rfl, rfl⟩
theorem r_6_arrange_17 : RA M_X6_arrange 17 0 18 := Or.inl ⟨0, by decide +kernel, rfl, rfl⟩
theorem r_6_arrange_18 : RC M_X6_arrange 18 (-1) 19 := ⟨⟨by decide, by decide⟩, Or.inl ⟨by decide +kernel, rfl⟩⟩
theorem r_6_arrange_19 : RP M_X6_arrange 19 6 6 22 := ⟨38, _, by decide +kernel, rfl, by decide, wd_f6_38, rfl, Or.inl rfl, rfl⟩
theorem r_6_arrange_22 : RA M_X6_arrange 22 0 23 := Or.inl ⟨0, by decide +kernel, rfl, rfl⟩
theorem r_6_arrange_23 : RA M_X6_arrange 23 0 24 := Or.inl ⟨0, by decide +kernel, rfl, rfl⟩
theorem r_6_arrange_24 : RG M_X6_arrange 24 6 2 27 := ⟨31, _, by decide +kernel, rfl, by decide, wd_f6_31, rfl, rfl⟩
theorem r_6_arrange_27 : RP M_X6_arrange 27 6 8 30 := ⟨41, _, by decide +kernel, rfl, by decide, wd_f6_41, rfl, Or.inl rfl, rfl⟩
theorem r_6_arrange_30 : RA M_X6_arrange 30 0 31 := Or.inl ⟨0, by decide +kernel, rfl, rfl⟩
theorem r_6_arrange_31 : RC M_X6_arrange 31 0 32 := ⟨⟨by decide, by decide⟩, Or.inl ⟨by decide +kernel, rfl⟩⟩
theorem r_6_arrange_32 : RC M_X6_arrange 32 0 33 := ⟨⟨by decide, by decide⟩, Or.inl ⟨by decide +kernel, rfl⟩⟩
theorem r_6_arrange_33 : RKv M_X6_arrange M_X6_tryFrom 33 2 6 36 := ⟨44, by decide +kernel, wd_m6_44, ok_M_X6_tryFrom, wd_s6_tryFrom, rfl⟩
theorem r_6_arrange_36 : RA M_X6_arrange 36 0 37 := Or.inl ⟨0, by decide +kernel, rfl, rfl⟩
theorem r_6_arrange_37 : RC M_X6_arrange 37 0 38 := ⟨⟨by decide, by decide⟩, Or.inl ⟨by decide +kernel, rfl⟩⟩
theorem r_6_arrange_38 : RP M_X6_arrange 38 6 2 41 := ⟨31, _, by decide +kernel, rfl, by decide, wd_f6_31, rfl, Or.inl rfl, rfl⟩
theorem r_6_arrange_41 : RA M_X6_arrange 41 0 42 := Or.inl ⟨0, by decide +kernel, rfl, rfl⟩
theorem r_6_arrange_42 : RC M_X6_arrange 42 0 43 := ⟨⟨by decide, by decide⟩, Or.inl ⟨by decide +kernel, rfl⟩⟩
theorem r_6_arrange_43 : RP M_X6_arrange 43 6 4 46 := ⟨35, _, by decide +kernel, rfl, by decide, wd_f6_35, rfl, Or.inl rfl, rfl⟩
theorem r_6_arrange_46 : RA M_X6_arrange 46 0 47 := Or.inl ⟨0, by decide +kernel, rfl, rfl⟩
theorem r_6_arrange_47 : RG M_X6_arrange 47 6 6 50 := ⟨38, _, by decide +kernel, rfl, by decide, wd_f6_38, rfl, rfl⟩
theorem r_6_arrange_50 : RW M_X6_arrange 50 .ireturn 51 1 := ⟨by decide +kernel, rfl⟩
theorem r_12_leastCome_0 : RC M_X12_leastCome 0 100000 3 := ⟨⟨by decide, by decide⟩, Or.inr (Or.inr (Or.inr (Or.inr ⟨260, by decide +kernel, wd_c12_260, rfl⟩)))⟩
theorem r_12_leastCome_3 : RS M_X12_leastCome 3 1 4 := ⟨by decide, Or.inl ⟨1, by decide +kernel, rfl, rfl⟩⟩
theorem r_12_leastCome_4 : RC M_X12_leastCome 4 0 5 := ⟨⟨by decide, by decide⟩, Or.inl ⟨by decide +kernel, rfl⟩⟩
theorem r_12_leastCome_5 : RS M_X12_leastCome 5 2 6 := ⟨by decide, Or.inl ⟨2, by decide +kernel, rfl, rfl⟩⟩
theorem r_12_leastCome_6 : RL M_X12_leastCome 6 2 7 := Or.inl ⟨2, by decide +kernel, rfl, rfl⟩
theorem r_12_leastCome_7 : RA M_X12_leastCome 7 0 8 := Or.inl ⟨0, by decide +kernel, rfl, rfl⟩
theorem r_12_leastCome_8 : RG M_X12_leastCome 8 12 98 11 := ⟨501, _, by decide +kernel, rfl, by decide, wd_f12_501, rfl, rfl⟩
theorem r_12_leastCome_11 : RB M_X12_leastCome 11 (.if_icmp .ge) 98 14 := ⟨87, by decide +kernel, rfl, rfl⟩
theorem r_12_leastCome_98 : RL M_X12_leastCome 98 1 99 := Or.inl ⟨1, by decide +kernel, rfl, rfl⟩
theorem r_12_leastCome_99 : RW M_X12_leastCome 99 .ireturn 100 1 := ⟨by decide +kernel, rfl⟩
theorem r_12_leastCome_14 : RC M_X12_leastCome 14 0 15 := ⟨⟨by decide, by decide⟩, Or.inl ⟨by decide +kernel, rfl⟩⟩
theorem r_12_leastCome_15 : RS M_X12_leastCome 15 3 16 := ⟨by decide, Or.inl ⟨3, by decide +kernel, rfl, rfl⟩⟩
theorem r_12_leastCome_16 : RC M_X12_leastCome 16 0 17 := ⟨⟨by decide, by decide⟩, Or.inl ⟨by decide +kernel, rfl⟩⟩
theorem r_12_leastCome_17 : RS M_X12_leastCome 17 4 19 := ⟨by decide, Or.inr ⟨by decide +kernel, rfl⟩⟩
theorem r_12_leastCome_19 : RC M_X12_leastCome 19 0 20 := ⟨⟨by decide, by decide⟩, Or.inl ⟨by decide +kernel, rfl⟩⟩
theorem r_12_leastCome_20 : RS M_X12_leastCome 20 5 22 := ⟨by decide, Or.inr ⟨by decide +kernel, rfl⟩⟩
theorem r_12_leastCome_22 : RL M_X12_leastCome 22 5 24 := Or.inr ⟨by decide +kernel, rfl⟩
theorem r_12_leastCome_24 : RA M_X12_leastCome 24 0 25 := Or.inl ⟨0, by decide +kernel, rfl, rfl⟩
theorem r_12_leastCome_25 : RG M_X12_leastCome 25 12 96 28 := ⟨498, _, by decide +kernel, rfl, by decide, wd_f12_498, rfl, rfl⟩
theorem r_12_leastCome_28 : RB M_X12_leastCome 28 (.if_icmp .ge) 79 31 := ⟨51, by decide +kernel, rfl, rfl⟩
theorem r_12_leastCome_79 : RL M_X12_leastCome 79 4 81 := Or.inr ⟨by decide +kernel, rfl⟩
theorem r_12_leastCome_81 : RL M_X12_leastCome 81 1 82 := Or.inl ⟨1, by decide +kernel, rfl, rfl⟩
theorem r_12_leastCome_82 : RB M_X12_leastCome 82 (.if_icmp .ge) 90 85 := ⟨8, by decide +kernel, rfl, rfl⟩
theorem r_12_leastCome_90 : RL M_X12_leastCome 90 1 91 := Or.inl ⟨1, by decide +kernel, rfl, rfl⟩
theorem r_12_leastCome_91 : RS M_X12_leastCome 91 1 92 := ⟨by decide, Or.inl ⟨1, by decide +kernel, rfl, rfl⟩⟩
theorem r_12_leastCome_92 : RI M_X12_leastCome 92 2 1 95 := ⟨by decide, by decide +kernel, rfl⟩
theorem r_12_leastCome_95 : RB M_X12_leastCome 95 .goto 6 98 := ⟨(-89), by decide +kernel, rfl, rfl⟩
theorem r_12_leastCome_85 : RL M_X12_leastCome 85 4 87 := Or.inr ⟨by decide +kernel, rfl⟩
theorem r_12_leastCome_87 : RB M_X12_leastCome 87 .goto 91 90 := ⟨4, by decide +kernel, rfl, rfl⟩
theorem r_12_leastCome_31 : RL M_X12_leastCome 31 3 32 := Or.inl ⟨3, by decide +kernel, rfl, rfl⟩
theorem r_12_leastCome_32 : RA M_X12_leastCome 32 0 33 := Or.inl ⟨0, by decide +kernel, rfl, rfl⟩
theorem r_12_leastCome_33 : RG M_X12_leastCome 33 12 97 36 := ⟨219, _, by decide +kernel, rfl, by decide, wd_f12_219, rfl, rfl⟩
theorem r_12_leastCome_36 : RL M_X12_leastCome 36 2 37 := Or.inl ⟨2, by decide +kernel, rfl, rfl⟩
theorem r_12_leastCome_37 : RW M_X12_leastCome 37 .iaload 38 1 := ⟨by decide +kernel, rfl⟩
theorem r_12_leastCome_38 : RB M_X12_leastCome 38 (.if_icmp .ge) 79 41 := ⟨41, by decide +kernel, rfl, rfl⟩
theorem r_12_leastCome_41 : RL M_X12_leastCome 41 3 42 := Or.inl ⟨3, by decide +kernel, rfl, rfl⟩
theorem r_12_leastCome_42 : RA M_X12_leastCome 42 0 43 := Or.inl ⟨0, by decide +kernel, rfl, rfl⟩
theorem r_12_leastCome_43 : RG M_X12_leastCome 43 12 94 46 := ⟨213, _, by decide +kernel, rfl, by decide, wd_f12_213, rfl, rfl⟩
theorem r_12_leastCome_46 : RA M_X12_leastCome 46 0 47 := Or.inl ⟨0, by decide +kernel, rfl, rfl⟩
theorem r_12_leastCome_47 : RG M_X12_leastCome 47 12 99 50 := ⟨222, _, by decide +kernel, rfl, by decide, wd_f12_222, rfl, rfl⟩
theorem r_12_leastCome_50 : RL M_X12_leastCome 50 5 52 := Or.inr ⟨by decide +kernel, rfl⟩
theorem r_12_leastCome_52 : RW M_X12_leastCome 52 .iaload 53 1 := ⟨by decide +kernel, rfl⟩
theorem r_12_leastCome_53 : RW M_X12_leastCome 53 .iaload 54 1 := ⟨by decide +kernel, rfl⟩
theorem r_12_leastCome_54 : RW M_X12_leastCome 54 .iadd 55 1 := ⟨by decide +kernel, rfl⟩
theorem r_12_leastCome_55 : RS M_X12_leastCome 55 3 56 := ⟨by decide, Or.inl ⟨3, by decide +kernel, rfl, rfl⟩⟩
theorem r_12_leastCome_56 : RL M_X12_leastCome 56 4 58 := Or.inr ⟨by decide +kernel, rfl⟩
theorem r_12_leastCome_58 : RA M_X12_leastCome 58 0 59 := Or.inl ⟨0, by decide +kernel, rfl, rfl⟩
theorem r_12_leastCome_59 : RG M_X12_leastCome 59 12 95 62 := ⟨216, _, by decide +kernel, rfl, by decide, wd_f12_216, rfl, rfl⟩
theorem r_12_leastCome_62 : RA M_X12_leastCome 62 0 63 := Or.inl ⟨0, by decide +kernel, rfl, rfl⟩
theorem r_12_leastCome_63 : RG M_X12_leastCome 63 12 99 66 := ⟨222, _, by decide +kernel, rfl, by decide, wd_f12_222, rfl, rfl⟩
theorem r_12_leastCome_66 : RL M_X12_leastCome 66 5 68 := Or.inr ⟨by decide +kernel, rfl⟩
theorem r_12_leastCome_68 : RW M_X12_leastCome 68 .iaload 69 1 := ⟨by decide +kernel, rfl⟩
theorem r_12_leastCome_69 : RW M_X12_leastCome 69 .iaload 70 1 := ⟨by decide +kernel, rfl⟩
theorem r_12_leastCome_70 : RW M_X12_leastCome 70 .iadd 71 1 := ⟨by decide +kernel, rfl⟩
theorem r_12_leastCome_71 : RS M_X12_leastCome 71 4 73 := ⟨by decide, Or.inr ⟨by decide +kernel, rfl⟩⟩
theorem r_12_leastCome_73 : RI M_X12_leastCome 73 5 1 76 := ⟨by decide, by decide +kernel, rfl⟩
theorem r_12_leastCome_76 : RB M_X12_leastCome 76 .goto 22 79 := ⟨(-54), by decide +kernel, rfl, rfl⟩
theorem r_12_orders_0 : RL M_X12_orders 0 1 1 := Or.inl ⟨1, by decide +kernel, rfl, rfl⟩
theorem r_12_orders_1 : RA M_X12_orders 1 0 2 := Or.inl ⟨0, by decide +kernel, rfl, rfl⟩
theorem r_12_orders_2 : RG M_X12_orders 2 12 96 5 := ⟨498, _, by decide +kernel, rfl, by decide, wd_f12_498, rfl, rfl⟩
theorem r_12_orders_5 : RB M_X12_orders 5 (.if_icmp .ne) 59 8 := ⟨54, by decide +kernel, rfl, rfl⟩
theorem r_12_orders_59 : RC M_X12_orders 59 0 60 := ⟨⟨by decide, by decide⟩, Or.inl ⟨by decide +kernel, rfl⟩⟩
theorem r_12_orders_60 : RS M_X12_orders 60 3 61 := ⟨by decide, Or.inl ⟨3, by decide +kernel, rfl, rfl⟩⟩
theorem r_12_orders_61 : RL M_X12_orders 61 3 62 := Or.inl ⟨3, by decide +kernel, rfl, rfl⟩
theorem r_12_orders_62 : RA M_X12_orders 62 0 63 := Or.inl ⟨0, by decide +kernel, rfl, rfl⟩
theorem r_12_orders_63 : RG M_X12_orders 63 12 96 66 := ⟨498, _, by decide +kernel, rfl, by decide, wd_f12_498, rfl, rfl⟩
theorem r_12_orders_66 : RB M_X12_orders 66 (.if_icmp .ge) 102 69 := ⟨36, by decide +kernel, rfl, rfl⟩
theorem r_12_orders_102 : RW M_X12_orders 102 .return_ 103 1 := ⟨by decide +kernel, rfl⟩
theorem r_12_orders_69 : RL M_X12_orders 69 2 70 := Or.inl ⟨2, by decide +kernel, rfl, rfl⟩
theorem r_12_orders_70 : RL M_X12_orders 70 3 71 := Or.inl ⟨3, by decide +kernel, rfl, rfl⟩
theorem r_12_orders_71 : RW M_X12_orders 71 .ishr 72 1 := ⟨by decide +kernel, rfl⟩
theorem r_12_orders_72 : RC M_X12_orders 72 1 73 := ⟨⟨by decide, by decide⟩, Or.inl ⟨by decide +kernel, rfl⟩⟩
theorem r_12_orders_73 : RW M_X12_orders 73 .iand 74 1 := ⟨by decide +kernel, rfl⟩
theorem r_12_orders_74 : RB M_X12_orders 74 (.ifCond .ne) 96 77 := ⟨22, by decide +kernel, rfl, rfl⟩
theorem r_12_orders_96 : RI M_X12_orders 96 3 1 99 := ⟨by decide, by decide +kernel, rfl⟩
theorem r_12_orders_99 : RB M_X12_orders 99 .goto 61 102 := ⟨(-38), by decide +kernel, rfl, rfl⟩
theorem r_12_orders_77 : RA M_X12_orders 77 0 78 := Or.inl ⟨0, by decide +kernel, rfl, rfl⟩
theorem r_12_orders_78 : RG M_X12_orders 78 12 99 81 := ⟨222, _, by decide +kernel, rfl, by decide, wd_f12_222, rfl, rfl⟩
theorem r_12_orders_81 : RL M_X12_orders 81 1 82 := Or.inl ⟨1, by decide +kernel, rfl, rfl⟩
theorem r_12_orders_82 : RL M_X12_orders 82 3 83 := Or.inl ⟨3, by decide +kernel, rfl, rfl⟩
theorem r_12_orders_83 : RW M_X12_orders 83 .iastore 84 1 := ⟨by decide +kernel, rfl⟩
theorem r_12_orders_84 : RA M_X12_orders 84 0 85 := Or.inl ⟨0, by decide +kernel, rfl, rfl⟩
theorem r_12_orders_85 : RL M_X12_orders 85 1 86 := Or.inl ⟨1, by decide +kernel, rfl, rfl⟩
theorem r_12_orders_86 : RC M_X12_orders 86 1 87 := ⟨⟨by decide, by decide⟩, Or.inl ⟨by decide +kernel, rfl⟩⟩
theorem r_12_orders_87 : RW M_X12_orders 87 .iadd 88 1 := ⟨by decide +kernel, rfl⟩
theorem r_12_orders_88 : RL M_X12_orders 88 2 89 := Or.inl ⟨2, by decide +kernel, rfl, rfl⟩
theorem r_12_orders_89 : RC M_X12_orders 89 1 90 := ⟨⟨by decide, by decide⟩, Or.inl ⟨by decide +kernel, rfl⟩⟩
theorem r_12_orders_90 : RL M_X12_orders 90 3 91 := Or.inl ⟨3, by decide +kernel, rfl, rfl⟩
theorem r_12_orders_91 : RW M_X12_orders 91 .ishl 92 1 := ⟨by decide +kernel, rfl⟩
theorem r_12_orders_92 : RW M_X12_orders 92 .ior 93 1 := ⟨by decide +kernel, rfl⟩
theorem r_12_orders_93 : RKv M_X12_orders M_X12_orders 93 2 12 96 := ⟨510, by decide +kernel, wd_m12_510, ok_M_X12_orders, wd_s12_orders, rfl⟩
theorem r_12_orders_8 : RA M_X12_orders 8 0 9 := Or.inl ⟨0, by decide +kernel, rfl, rfl⟩
theorem r_12_orders_9 : RKv M_X12_orders M_X12_leastCome 9 0 12 12 := ⟨504, by decide +kernel, wd_m12_504, ok_M_X12_leastCome, wd_s12_leastCome, rfl⟩
theorem r_12_orders_12 : RS M_X12_orders 12 3 13 := ⟨by decide, Or.inl ⟨3, by decide +kernel, rfl, rfl⟩⟩
theorem r_12_orders_13 : RL M_X12_orders 13 3 14 := Or.inl ⟨3, by decide +kernel, rfl, rfl⟩
theorem r_12_orders_14 : RA M_X12_orders 14 0 15 := Or.inl ⟨0, by decide +kernel, rfl, rfl⟩
theorem r_12_orders_15 : RG M_X12_orders 15 12 102 18 := ⟨507, _, by decide +kernel, rfl, by decide, wd_f12_507, rfl, rfl⟩
theorem r_12_orders_18 : RB M_X12_orders 18 (.if_icmp .le) 58 21 := ⟨40, by decide +kernel, rfl, rfl⟩
theorem r_12_orders_58 : RW M_X12_orders 58 .return_ 59 1 := ⟨by decide +kernel, rfl⟩
theorem r_12_orders_21 : RA M_X12_orders 21 0 22 := Or.inl ⟨0, by decide +kernel, rfl, rfl⟩
theorem r_12_orders_22 : RL M_X12_orders 22 3 23 := Or.inl ⟨3, by decide +kernel, rfl, rfl⟩
theorem r_12_orders_23 : RP M_X12_orders 23 12 102 26 := ⟨507, _, by decide +kernel, rfl, by decide, wd_f12_507, rfl, Or.inl rfl, rfl⟩
theorem r_12_orders_26 : RC M_X12_orders 26 0 27 := ⟨⟨by decide, by decide⟩, Or.inl ⟨by decide +kernel, rfl⟩⟩
theorem r_12_orders_27 : RS M_X12_orders 27 4 29 := ⟨by decide, Or.inr ⟨by decide +kernel, rfl⟩⟩
theorem r_12_orders_29 : RL M_X12_orders 29 4 31 := Or.inr ⟨by decide +kernel, rfl⟩
theorem r_12_orders_31 : RA M_X12_orders 31 0 32 := Or.inl ⟨0, by decide +kernel, rfl, rfl⟩
theorem r_12_orders_32 : RG M_X12_orders 32 12 96 35 := ⟨498, _, by decide +kernel, rfl, by decide, wd_f12_498, rfl, rfl⟩
theorem r_12_orders_35 : RB M_X12_orders 35 (.if_icmp .ge) 58 38 := ⟨23, by decide +kernel, rfl, rfl⟩
theorem r_12_orders_38 : RA M_X12_orders 38 0 39 := Or.inl ⟨0, by decide +kernel, rfl, rfl⟩
theorem r_12_orders_39 : RG M_X12_orders 39 12 100 42 := ⟨225, _, by decide +kernel, rfl, by decide, wd_f12_225, rfl, rfl⟩
theorem r_12_orders_42 : RL M_X12_orders 42 4 44 := Or.inr ⟨by decide +kernel, rfl⟩
theorem r_12_orders_44 : RA M_X12_orders 44 0 45 := Or.inl ⟨0, by decide +kernel, rfl, rfl⟩
theorem r_12_orders_45 : RG M_X12_orders 45 12 99 48 := ⟨222, _, by decide +kernel, rfl, by decide, wd_f12_222, rfl, rfl⟩
theorem r_12_orders_48 : RL M_X12_orders 48 4 50 := Or.inr ⟨by decide +kernel, rfl⟩
theorem r_12_orders_50 : RW M_X12_orders 50 .iaload 51 1 := ⟨by decide +kernel, rfl⟩
theorem r_12_orders_51 : RW M_X12_orders 51 .iastore 52 1 := ⟨by decide +kernel, rfl⟩
theorem r_12_orders_52 : RI M_X12_orders 52 4 1 55 := ⟨by decide, by decide +kernel, rfl⟩
theorem r_12_orders_55 : RB M_X12_orders 55 .goto 29 58 := ⟨(-26), by decide +kernel, rfl, rfl⟩
theorem r_12_order_0 : RA M_X12_order 0 0 1 := Or.inl ⟨0, by decide +kernel, rfl, rfl⟩
theorem r_12_order_1 : RG M_X12_order 1 12 96 4 := ⟨498, _, by decide +kernel, rfl, by decide, wd_f12_498, rfl, rfl⟩
theorem r_12_order_4 : RB M_X12_order 4 (.ifCond .eq) 14 7 := ⟨10, by decide +kernel, rfl, rfl⟩
theorem r_12_order_14 : RC M_X12_order 14 (-3) 16 := ⟨⟨by decide, by decide⟩, Or.inr (Or.inl ⟨by decide +kernel, by decide, rfl⟩)⟩
theorem r_12_order_16 : RW M_X12_order 16 .ireturn 17 1 := ⟨by decide +kernel, rfl⟩
theorem r_12_order_7 : RA M_X12_order 7 0 8 := Or.inl ⟨0, by decide +kernel, rfl, rfl⟩
theorem r_12_order_8 : RG M_X12_order 8 12 98 11 := ⟨501, _, by decide +kernel, rfl, by decide, wd_f12_501, rfl, rfl⟩
theorem r_12_order_11 : RB M_X12_order 11 (.ifCond .ne) 17 14 := ⟨6, by decide +kernel, rfl, rfl⟩
theorem r_12_order_17 : RA M_X12_order 17 0 18 := Or.inl ⟨0, by decide +kernel, rfl, rfl⟩
theorem r_12_order_18 : RC M_X12_order 18 (-1) 19 := ⟨⟨by decide, by decide⟩, Or.inl ⟨by decide +kernel, rfl⟩⟩
theorem r_12_order_19 : RP M_X12_order 19 12 102 22 := ⟨507, _, by decide +kernel, rfl, by decide, wd_f12_507, rfl, Or.inl rfl, rfl⟩
theorem r_12_order_22 : RA M_X12_order 22 0 23 := Or.inl ⟨0, by decide +kernel, rfl, rfl⟩
theorem r_12_order_23 : RC M_X12_order 23 0 24 := ⟨⟨by decide, by decide⟩, Or.inl ⟨by decide +kernel, rfl⟩⟩
theorem r_12_order_24 : RC M_X12_order 24 0 25 := ⟨⟨by decide, by decide⟩, Or.inl ⟨by decide +kernel, rfl⟩⟩
theorem r_12_order_25 : RKv M_X12_order M_X12_orders 25 2 12 28 := ⟨510, by decide +kernel, wd_m12_510, ok_M_X12_orders, wd_s12_orders, rfl⟩
theorem r_12_order_28 : RA M_X12_order 28 0 29 := Or.inl ⟨0, by decide +kernel, rfl, rfl⟩
theorem r_12_order_29 : RA M_X12_order 29 0 30 := Or.inl ⟨0, by decide +kernel, rfl, rfl⟩
theorem r_12_order_30 : RG M_X12_order 30 12 96 33 := ⟨498, _, by decide +kernel, rfl, by decide, wd_f12_498, rfl, rfl⟩
theorem r_12_order_33 : RP M_X12_order 33 12 101 36 := ⟨513, _, by decide +kernel, rfl, by decide, wd_f12_513, rfl, Or.inl rfl, rfl⟩
theorem r_12_order_36 : RA M_X12_order 36 0 37 := Or.inl ⟨0, by decide +kernel, rfl, rfl⟩
theorem r_12_order_37 : RC M_X12_order 37 0 38 := ⟨⟨by decide, by decide⟩, Or.inl ⟨by decide +kernel, rfl⟩⟩
theorem r_12_order_38 : RP M_X12_order 38 12 96 41 := ⟨498, _, by decide +kernel, rfl, by decide, wd_f12_498, rfl, Or.inl rfl, rfl⟩
theorem r_12_order_41 : RA M_X12_order 41 0 42 := Or.inl ⟨0, by decide +kernel, rfl, rfl⟩
theorem r_12_order_42 : RC M_X12_order 42 0 43 := ⟨⟨by decide, by decide⟩, Or.inl ⟨by decide +kernel, rfl⟩⟩
theorem r_12_order_43 : RP M_X12_order 43 12 98 46 := ⟨501, _, by decide +kernel, rfl, by decide, wd_f12_501, rfl, Or.inl rfl, rfl⟩
theorem r_12_order_46 : RA M_X12_order 46 0 47 := Or.inl ⟨0, by decide +kernel, rfl, rfl⟩
theorem r_12_order_47 : RG M_X12_order 47 12 102 50 := ⟨507, _, by decide +kernel, rfl, by decide, wd_f12_507, rfl, rfl⟩
theorem r_12_order_50 : RW M_X12_order 50 .ireturn 51 1 := ⟨by decide +kernel, rfl⟩
theorem r_11_order_0 : RA M_X11_order 0 0 1 := Or.inl ⟨0, by decide +kernel, rfl, rfl⟩
theorem r_11_order_1 : RG M_X11_order 1 11 8 4 := ⟨78, _, by decide +kernel, rfl, by decide, wd_f11_78, rfl, rfl⟩
theorem r_11_order_4 : RKv M_X11_order M_X6_arrange 4 0 6 7 := ⟨225, by decide +kernel, wd_m11_225, ok_M_X6_arrange, wd_s6_arrange, rfl⟩
theorem r_11_order_7 : RW M_X11_order 7 .ireturn 8 1 := ⟨by decide +kernel, rfl⟩
set_option maxRecDepth 10000 in
theorem sp_X6_comeTill {l : Launch} {w : Wo} {d : Nat} {G : PH} {P : Option PV → PH → Prop} {a : Int} (hz6 : 0 ≤ (gF G 6 0 2) ∧ (gF G 6 0 2) ≤ 6) (hz4 : 0 ≤ (gF G 6 0 4) ∧ (gF G 6 0 4) ≤ 4) (hgb : ∀ j, 0 ≤ j → j < (gF G 6 0 2) → (0 ≤ (gA G 60 0 (j)) ∧ (gA G 60 0 (j)) ≤ 99) ∧ 0 ≤ (gA G 61 0 (j)) ∧ (gA G 61 0 (j)) ≤ 99) (hT : ∀ j, 0 ≤ j → j < (gF G 6 0 2) → 0 ≤ (gA G 63 0 (j)) ∧ (gA G 63 0 (j)) < (gF G 6 0 2)) (hP : P (some (vI ((cmI (gA G 60 0) (gA G 61 0) (gA G 63 0) a (gF G 6 0 2)).2))) G) : PW l w M_X6_comeTill (d + 0) 0 [some (vR 6 (0)), some (vI (a)), none, none, none] [] G P := by
  refine pw_const r_6_comeTill_0 ?_
  refine pw_istore (ls' := [some (vR 6 (0)), some (vI (a)), some (vI (0)), none, none]) r_6_comeTill_1 rfl rfl ?_
  refine pw_const r_6_comeTill_2 ?_
  refine pw_istore (ls' := [some (vR 6 (0)), some (vI (a)), some (vI (0)), some (vI (0)), none]) r_6_comeTill_3 rfl rfl ?_
  refine pw_const r_6_comeTill_4 ?_
  refine pw_istore (ls' := [some (vR 6 (0)), some (vI (a)), some (vI (0)), some (vI (0)), some (vI (0))]) r_6_comeTill_5 rfl rfl ?_
  have L7 : ∀ (nF : Nat) (i x y : Int), (hi : 0 ≤ i ∧ i ≤ (gF G 6 0 2)) → (hx : (cmI (gA G 60 0) (gA G 61 0) (gA G 63 0) a i) = (x, y)) → (hxb : (0 ≤ x ∧ x ≤ 99 * i) ∧ 0 ≤ y ∧ y ≤ 99 * i) → ((gF G 6 0 2) - i).toNat < nF → PW l w M_X6_comeTill (d + 0) 7 [some (vR 6 (0)), some (vI (a)), some (vI (x)), some (vI (y)), some (vI (i))] [] G P := by
    intro nF
    induction nF with
    | zero => intro _ _ _ _ _ _ hM; exact absurd hM (Nat.not_lt_zero _)
    | succ nF ih7 =>
      intro i x y hi hx hxb hM7
      refine pw_iload r_6_comeTill_7 rfl ?_
      refine pw_aload r_6_comeTill_9 rfl ?_
      refine pw_getI r_6_comeTill_10 fs_6_2 (by decide) ?_
      refine pw_icmp_ge r_6_comeTill_13 (fun h13 => ?_) (fun h13 => ?_)
      · skip
        refine pw_iload r_6_comeTill_57 rfl ?_
        refine pw_iret r_6_comeTill_58 rfl (Nat.le_refl _) ⟨rfl, ?_⟩
        first | (rw [show (gF G 6 0 2) = i by omega, hx] at hP; exact hP) | (rw [cm_stop hi.1 hi.2 (by rw [hx]; show ¬ x < a; omega), hx] at hP; exact hP)
      · skip
        refine pw_iload r_6_comeTill_16 rfl ?_
        refine pw_iload r_6_comeTill_17 rfl ?_
        refine pw_icmp_ge r_6_comeTill_18 (fun h18 => ?_) (fun h18 => ?_)
        · skip
          refine pw_iload r_6_comeTill_57 rfl ?_
          refine pw_iret r_6_comeTill_58 rfl (Nat.le_refl _) ⟨rfl, ?_⟩
          first | (rw [show (gF G 6 0 2) = i by omega, hx] at hP; exact hP) | (rw [cm_stop hi.1 hi.2 (by rw [hx]; show ¬ x < a; omega), hx] at hP; exact hP)
        · skip
          have ht := hT i hi.1 (by omega)
          have hg := hgb ((gA G 63 0 (i))) ht.1 ht.2
          refine pw_iload r_6_comeTill_21 rfl ?_
          refine pw_aload r_6_comeTill_22 rfl ?_
          refine pw_getR r_6_comeTill_23 fs_6_0 (by decide) ?_
          refine pw_aload r_6_comeTill_26 rfl ?_
          refine pw_getR r_6_comeTill_27 fs_6_5 (by decide) ?_
          refine pw_iload r_6_comeTill_30 rfl ?_
          refine pw_iald r_6_comeTill_32 sh63 (by omega) (by omega) ?_
          refine pw_iald r_6_comeTill_33 sh60 (by omega) (by omega) ?_
          refine pw_iadd r_6_comeTill_34 (by omega) ?_
          refine pw_istore (ls' := [some (vR 6 (0)), some (vI (a)), some (vI ((x + (gA G 60 (0) (gA G 63 (0) (i)))))), some (vI (y)), some (vI (i))]) r_6_comeTill_35 rfl rfl ?_
          refine pw_iload r_6_comeTill_36 rfl ?_
          refine pw_aload r_6_comeTill_37 rfl ?_
          refine pw_getR r_6_comeTill_38 fs_6_1 (by decide) ?_
          refine pw_aload r_6_comeTill_41 rfl ?_
          refine pw_getR r_6_comeTill_42 fs_6_5 (by decide) ?_
          refine pw_iload r_6_comeTill_45 rfl ?_
          refine pw_iald r_6_comeTill_47 sh63 (by omega) (by omega) ?_
          refine pw_iald r_6_comeTill_48 sh61 (by omega) (by omega) ?_
          refine pw_iadd r_6_comeTill_49 (by omega) ?_
          refine pw_istore (ls' := [some (vR 6 (0)), some (vI (a)), some (vI ((x + (gA G 60 (0) (gA G 63 (0) (i)))))), some (vI ((y + (gA G 61 (0) (gA G 63 (0) (i)))))), some (vI (i))]) r_6_comeTill_50 rfl rfl ?_
          refine pw_iinc (b := 0) (ls' := [some (vR 6 (0)), some (vI (a)), some (vI ((x + (gA G 60 (0) (gA G 63 (0) (i)))))), some (vI ((y + (gA G 61 (0) (gA G 63 (0) (i)))))), some (vI ((i + 1)))]) r_6_comeTill_51 rfl rfl (by omega) rfl ?_
          refine pw_goto r_6_comeTill_54 ?_
          exact ih7 ((i + 1)) ((x + (gA G 60 (0) (gA G 63 (0) (i))))) ((y + (gA G 61 (0) (gA G 63 (0) (i))))) (by omega) (by rw [cm_s hi.1 (by rw [hx]; exact h18), hx]) (by omega) (by omega)
  exact L7 _ (0) (0) (0) (by omega) (rfl) (by omega) (Nat.lt_succ_self _)
set_option maxRecDepth 10000 in
theorem sp_X6_keepIfBetter {l : Launch} {w : Wo} {d : Nat} {G : PH} {P : Option PV → PH → Prop} (hz6 : 0 ≤ (gF G 6 0 2) ∧ (gF G 6 0 2) ≤ 6) (hz4 : 0 ≤ (gF G 6 0 4) ∧ (gF G 6 0 4) ≤ 4) (hgb : ∀ j, 0 ≤ j → j < (gF G 6 0 2) → (0 ≤ (gA G 60 0 (j)) ∧ (gA G 60 0 (j)) ≤ 99) ∧ 0 ≤ (gA G 61 0 (j)) ∧ (gA G 61 0 (j)) ≤ 99) (hT : ∀ j, 0 ≤ j → j < (gF G 6 0 2) → 0 ≤ (gA G 63 0 (j)) ∧ (gA G 63 0 (j)) < (gF G 6 0 2)) (h1 : ¬ (gF G 6 0 6) < vlI (gA G 62 0) (gF G 6 0 2) (gA G 60 0) (gA G 61 0) 1000000000 (gA G 63 0) (gF G 6 0 4) → P none G) (h2 : (gF G 6 0 6) < vlI (gA G 62 0) (gF G 6 0 2) (gA G 60 0) (gA G 61 0) 1000000000 (gA G 63 0) (gF G 6 0 4) → P none (uA (sF G 6 0 6 (vlI (gA G 62 0) (gF G 6 0 2) (gA G 60 0) (gA G 61 0) 1000000000 (gA G 63 0) (gF G 6 0 4))) 64 0 (cpF (gA G 63 0) (gA G 64 0) 6))) : PW l w M_X6_keepIfBetter (d + 1) 0 [some (vR 6 (0)), none, none] [] G P := by
  refine pw_const r_6_keepIfBetter_0 ?_
  refine pw_istore (ls' := [some (vR 6 (0)), some (vI (1000000000)), none]) r_6_keepIfBetter_2 rfl rfl ?_
  refine pw_const r_6_keepIfBetter_3 ?_
  refine pw_istore (ls' := [some (vR 6 (0)), some (vI (1000000000)), some (vI (0))]) r_6_keepIfBetter_4 rfl rfl ?_
  have L5 : ∀ (nF : Nat) (i v : Int), (hi : 0 ≤ i ∧ i ≤ (gF G 6 0 4)) → (hv : v = vlI (gA G 62 0) (gF G 6 0 2) (gA G 60 0) (gA G 61 0) 1000000000 (gA G 63 0) i) → ((gF G 6 0 4) - i).toNat < nF → PW l w M_X6_keepIfBetter (d + 1) 5 [some (vR 6 (0)), some (vI (v)), some (vI (i))] [] G P := by
    intro nF
    induction nF with
    | zero => intro _ _ _ _ hM; exact absurd hM (Nat.not_lt_zero _)
    | succ nF ih5 =>
      intro i v hi hv hM5
      refine pw_iload r_6_keepIfBetter_5 rfl ?_
      refine pw_aload r_6_keepIfBetter_6 rfl ?_
      refine pw_getI r_6_keepIfBetter_7 fs_6_4 (by decide) ?_
      refine pw_icmp_ge r_6_keepIfBetter_10 (fun h10 => ?_) (fun h10 => ?_)
      · skip
        have ei : i = (gF G 6 0 4) := by omega
        subst ei
        rw [← hv] at h1 h2
        refine pw_iload r_6_keepIfBetter_34 rfl ?_
        refine pw_aload r_6_keepIfBetter_35 rfl ?_
        refine pw_getI r_6_keepIfBetter_36 fs_6_6 (by decide) ?_
        refine pw_icmp_le r_6_keepIfBetter_39 (fun h39 => ?_) (fun h39 => ?_)
        · skip
          refine pw_vret r_6_keepIfBetter_62 rfl (Nat.le_refl _) ⟨rfl, ?_⟩
          first | exact h1 (by omega) | exact h2 (by omega)
        · skip
          refine pw_aload r_6_keepIfBetter_42 rfl ?_
          refine pw_iload r_6_keepIfBetter_43 rfl ?_
          refine pw_putI r_6_keepIfBetter_44 (by decide +kernel) fs_6_6 (by decide) ?_
          refine pw_aload r_6_keepIfBetter_47 rfl ?_
          refine pw_getR r_6_keepIfBetter_48 fs_6_5 (by decide) ?_
          refine pw_const r_6_keepIfBetter_51 ?_
          refine pw_aload r_6_keepIfBetter_52 rfl ?_
          refine pw_getR r_6_keepIfBetter_53 fs_6_7 (by decide) ?_
          refine pw_const r_6_keepIfBetter_56 ?_
          refine pw_const r_6_keepIfBetter_57 ?_
          refine pw_acopy (t := 0) r_6_keepIfBetter_59 sh63 sh64 (by decide) (by omega) (by omega) (by omega) (fun _ _ _ => rfl) rfl (Nat.le_of_ble_eq_true rfl) (by decide) ?_
          refine pw_eqG (G' := uA (sF G 6 (0) 6 (v)) 64 (0) (cpF (gA G 63 0) (gA G 64 0) 6)) (rfl) ?_
          refine pw_vret r_6_keepIfBetter_62 rfl (Nat.le_refl _) ⟨rfl, ?_⟩
          first | exact h1 (by omega) | exact h2 (by omega)
      · skip
        refine pw_iload r_6_keepIfBetter_13 rfl ?_
        refine pw_aload r_6_keepIfBetter_14 rfl ?_
        refine pw_aload r_6_keepIfBetter_15 rfl ?_
        refine pw_getR r_6_keepIfBetter_16 fs_6_3 (by decide) ?_
        refine pw_iload r_6_keepIfBetter_19 rfl ?_
        refine pw_iald r_6_keepIfBetter_20 sh62 (by omega) (by omega) ?_
        refine pw_callV (av := [vI (gA G 62 (0) (i))]) (st := [vI (v)]) (ls0 := [some (vR 6 (0)), some (vI (gA G 62 (0) (i))), none, none, none]) r_6_keepIfBetter_21 rfl rfl rfl (Nat.le_refl _) ?_
        refine sp_X6_comeTill (by first | assumption | exact hz6 | omega) (by first | assumption | exact hz4 | omega) (by first | assumption | exact hgb | omega) (by first | assumption | exact hT | omega) ?_
        refine pw_mmin r_6_keepIfBetter_24 rfl (Nat.le_of_ble_eq_true rfl) (Nat.le_refl _) ?_
        refine pw_istore (ls' := [some (vR 6 (0)), some (vI (min v ((cmI (gA G 60 0) (gA G 61 0) (gA G 63 0) (gA G 62 (0) (i)) (gF G 6 0 2)).2))), some (vI (i))]) r_6_keepIfBetter_27 rfl rfl ?_
        refine pw_iinc (b := 0) (ls' := [some (vR 6 (0)), some (vI (min v ((cmI (gA G 60 0) (gA G 61 0) (gA G 63 0) (gA G 62 (0) (i)) (gF G 6 0 2)).2))), some (vI ((i + 1)))]) r_6_keepIfBetter_28 rfl rfl (by omega) rfl ?_
        refine pw_goto r_6_keepIfBetter_31 ?_
        exact ih5 ((i + 1)) (min v ((cmI (gA G 60 0) (gA G 61 0) (gA G 63 0) (gA G 62 (0) (i)) (gF G 6 0 2)).2)) (by omega) (by rw [vl_s _ _ _ _ _ _ hi.1, ← hv]) (by omega)
  exact L5 _ (0) (1000000000) (by omega) (rfl) (Nat.lt_succ_self _)
set_option maxRecDepth 10000 in
theorem sp_X6_tryFrom {l : Launch} {w : Wo} : ∀ (n0 : Nat), ∀ {d : Nat} {G : PH} {P : Option PV → PH → Prop} {p u : Int}, ((n0 : Int) + p = 7) → (0 ≤ (gF G 6 0 2) ∧ (gF G 6 0 2) ≤ 6) → (0 ≤ (gF G 6 0 4) ∧ (gF G 6 0 4) ≤ 4) → (∀ j, 0 ≤ j → j < (gF G 6 0 2) → (0 ≤ (gA G 60 0 (j)) ∧ (gA G 60 0 (j)) ≤ 99) ∧ 0 ≤ (gA G 61 0 (j)) ∧ (gA G 61 0 (j)) ≤ 99) → (0 ≤ p ∧ p ≤ (gF G 6 0 2)) → (∀ j, 0 ≤ j → j < p → 0 ≤ (gA G 63 0 (j)) ∧ (gA G 63 0 (j)) < (gF G 6 0 2)) → (∀ T B O, (T, B, O) = ordN (gF G 6 0 2) (fun T => vlI (gA G 62 0) (gF G 6 0 2) (gA G 60 0) (gA G 61 0) 1000000000 T (gF G 6 0 4)) 6 n0 p u (gA G 63 0, (gF G 6 0 6), gA G 64 0) → P none (sF (uA (uA G 63 0 (T)) 64 0 (O)) 6 0 6 (B))) → PW l w M_X6_tryFrom (d + 2 * n0 + 1) 0 [some (vR 6 (0)), some (vI (p)), some (vI (u)), none] [] G P := by
  intro n0
  induction n0 with
  | zero => intros; exfalso; omega
  | succ nR ihR =>
    intro d G P p u hM hz6 hz4 hgb hp hT hP
    rw [show d + 2 * (nR + 1) + 1 = d + 2 * nR + 3 by omega]
    refine pw_iload r_6_tryFrom_0 rfl ?_
    refine pw_aload r_6_tryFrom_1 rfl ?_
    refine pw_getI r_6_tryFrom_2 fs_6_2 (by decide) ?_
    refine pw_icmp_ge r_6_tryFrom_5 (fun h05 => ?_) (fun h05 => ?_)
    · skip
      refine pw_aload r_6_tryFrom_14 rfl ?_
      refine pw_callV (av := []) (st := []) (ls0 := [some (vR 6 (0)), none, none]) r_6_tryFrom_15 rfl rfl rfl (Nat.le_refl _) ?_
      refine sp_X6_keepIfBetter (by first | assumption | exact hz6 | omega) (by first | assumption | exact hz4 | omega) (by first | assumption | exact hgb | omega) (fun j a b => hT j a (by omega)) ?_ ?_
      · skip
        intro hk
        refine pw_vret r_6_tryFrom_18 rfl (Nat.le_refl _) ⟨rfl, ?_⟩
        first | (exfalso; omega) | (have hh := hP (gA G 63 0) (gF G 6 0 6) (gA G 64 0) (ord_not (s := (gA G 63 0, (gF G 6 0 6), gA G 64 0)) (by omega) hk).symm; rw [uA_self, uA_self, sF_self] at hh; exact hh) | (have hh := hP (gA G 63 0) _ _ (ord_better (s := (gA G 63 0, (gF G 6 0 6), gA G 64 0)) (by omega) hk).symm; rw [uA_self] at hh; exact hh)
      · skip
        intro hk
        refine pw_eqG (G' := uA (sF G 6 (0) 6 (vlI (gA G 62 0) (gF G 6 (0) 2) (gA G 60 0) (gA G 61 0) 1000000000 (gA G 63 0) (gF G 6 (0) 4))) 64 (0) (cpF (gA G 63 0) (gA G 64 0) 6)) (by first | rfl | simp (disch := decide) [gF_sF, gF_sA, gF_uA, gF_sD, gA_sF, gA_sA, gA_uA, gA_sD, gD_sF, gD_sA, gD_uA, gD_sD]) ?_
        refine pw_vret r_6_tryFrom_18 rfl (Nat.le_refl _) ⟨rfl, ?_⟩
        first | (exfalso; omega) | (have hh := hP (gA G 63 0) (gF G 6 0 6) (gA G 64 0) (ord_not (s := (gA G 63 0, (gF G 6 0 6), gA G 64 0)) (by omega) hk).symm; rw [uA_self, uA_self, sF_self] at hh; exact hh) | (have hh := hP (gA G 63 0) _ _ (ord_better (s := (gA G 63 0, (gF G 6 0 6), gA G 64 0)) (by omega) hk).symm; rw [uA_self] at hh; exact hh)
    · skip
      refine pw_iload r_6_tryFrom_8 rfl ?_
      refine pw_const r_6_tryFrom_9 ?_
      refine pw_icmp_lt r_6_tryFrom_11 (fun h11 => ?_) (fun h11 => ?_)
      · skip
        have hpn : p < (gF G 6 0 2) := by omega
        refine pw_const r_6_tryFrom_19 ?_
        refine pw_istore (ls' := [some (vR 6 (0)), some (vI (p)), some (vI (u)), some (vI (0))]) r_6_tryFrom_20 rfl rfl ?_
        have L21 : ∀ (nF : Nat) (i B : Int) (T O : Int → Int), (hi : 0 ≤ i ∧ i ≤ (gF G 6 0 2)) → (hs : (T, B, O) = iterI (ordS (gF G 6 0 2) (fun T => vlI (gA G 62 0) (gF G 6 0 2) (gA G 60 0) (gA G 61 0) 1000000000 T (gF G 6 0 4)) 6 nR p u) i (gA G 63 0, (gF G 6 0 6), gA G 64 0)) → (hTi : ∀ j, 0 ≤ j → j < p → 0 ≤ T j ∧ T j < (gF G 6 0 2)) → ((gF G 6 0 2) - i).toNat < nF → PW l w M_X6_tryFrom (d + 2 * nR + 3) 21 [some (vR 6 (0)), some (vI (p)), some (vI (u)), some (vI (i))] [] (sF (uA (uA G 63 (0) (T)) 64 (0) (O)) 6 (0) 6 (B)) P := by
          intro nF
          induction nF with
          | zero => intro _ _ _ _ _ _ _ hM; exact absurd hM (Nat.not_lt_zero _)
          | succ nF ih21 =>
            intro i B T O hi hs hTi hM21
            refine pw_iload r_6_tryFrom_21 rfl ?_
            refine pw_aload r_6_tryFrom_22 rfl ?_
            refine pw_getIv (v := gF G 6 (0) 2) r_6_tryFrom_23 fs_6_2 (by decide) (by first | rfl | simp [gF_sF, gF_sA, gF_uA, gF_sD, gA_sF, gA_sA, gA_uA, gA_sD, gD_sF, gD_sA, gD_uA, gD_sD]) ?_
            refine pw_icmp_ge r_6_tryFrom_26 (fun h26 => ?_) (fun h26 => ?_)
            · skip
              refine pw_vret r_6_tryFrom_54 rfl (Nat.le_refl _) ⟨rfl, ?_⟩
              have ei : i = (gF G 6 0 2) := by omega
              subst ei
              exact hP T B O (hs.trans (ord_loop hpn).symm)
            · skip
              refine pw_iload r_6_tryFrom_29 rfl ?_
              refine pw_iload r_6_tryFrom_30 rfl ?_
              refine pw_ishr r_6_tryFrom_31 ?_
              refine pw_const r_6_tryFrom_32 ?_
              refine pw_iand r_6_tryFrom_33 ?_
              refine pw_if_ne r_6_tryFrom_34 (fun h34 => ?_) (fun h34 => ?_)
              · skip
                refine pw_iinc (b := 0) (ls' := [some (vR 6 (0)), some (vI (p)), some (vI (u)), some (vI ((i + 1)))]) r_6_tryFrom_48 rfl rfl (by omega) rfl ?_
                refine pw_goto r_6_tryFrom_51 ?_
                exact ih21 ((i + 1)) (B) (T) (O) (by omega) (by first | (rw [iter_s _ hi.1, ← hs, ordS_t h34]; exact hrec) | (rw [iter_s _ hi.1, ← hs, ordS_f h34])) (by first | exact hTi | exact hTr) (by omega)
              · skip
                refine pw_aload r_6_tryFrom_37 rfl ?_
                refine pw_iload r_6_tryFrom_38 rfl ?_
                refine pw_iload r_6_tryFrom_39 rfl ?_
                refine pw_iload r_6_tryFrom_40 rfl ?_
                refine pw_const r_6_tryFrom_41 ?_
                refine pw_iload r_6_tryFrom_42 rfl ?_
                refine pw_ishl r_6_tryFrom_43 ?_
                refine pw_ior r_6_tryFrom_44 ?_
                refine pw_callV (av := [vI (i), vI (p), vI (pOr u (pShl 1 i))]) (st := []) (ls0 := [some (vR 6 (0)), some (vI (i)), some (vI (p)), some (vI (pOr u (pShl 1 i)))]) r_6_tryFrom_45 rfl rfl rfl (Nat.le_refl _) ?_
                refine pw_aload r_6_tryWith_0 rfl ?_
                refine pw_getR r_6_tryWith_1 fs_6_5 (by decide) ?_
                refine pw_iload r_6_tryWith_4 rfl ?_
                refine pw_iload r_6_tryWith_5 rfl ?_
                refine pw_iast r_6_tryWith_6 sh63 (by omega) (by omega) ?_
                refine pw_aload r_6_tryWith_7 rfl ?_
                refine pw_iload r_6_tryWith_8 rfl ?_
                refine pw_const r_6_tryWith_9 ?_
                refine pw_iadd r_6_tryWith_10 (by omega) ?_
                refine pw_iload r_6_tryWith_11 rfl ?_
                refine pw_callV (av := [vI ((p + 1)), vI (pOr u (pShl 1 i))]) (st := []) (ls0 := [some (vR 6 (0)), some (vI ((p + 1))), some (vI (pOr u (pShl 1 i))), none]) r_6_tryWith_12 rfl rfl rfl (Nat.le_refl _) ?_
                refine ihR (d := d) (by omega) (hz6) (hz4) (hgb) (⟨by omega, show p + 1 ≤ (gF G 6 0 2) by omega⟩) (fun j a b => by show 0 ≤ gA (sA (sF (uA (uA G 63 0 (T)) 64 0 (O)) 6 0 6 (B)) 63 0 p i) 63 0 j ∧ gA (sA (sF (uA (uA G 63 0 (T)) 64 0 (O)) 6 0 6 (B)) 63 0 p i) 63 0 j < (gF G 6 0 2); rw [gA_sA_fn]; by_cases e : j = p; (rw [e, upA_same]; omega); (rw [upA_ne e]; exact hTi j a (by omega))) ?_
                intro T1 B1 O1 hrec
                rw [gA_sA_fn] at hrec
                have hTr : ∀ j, 0 ≤ j → j < p → 0 ≤ T1 j ∧ T1 j < (gF G 6 0 2) := fun j a b => by rw [show T1 j = T j from (congrArg (fun q : OSt => q.1 j) hrec).trans ((ord_keep hz6.1 (show j < p + 1 by omega)).trans (upA_ne (by omega)))]; exact hTi j a b
                refine pw_vret r_6_tryWith_15 rfl (Nat.le_refl _) ⟨rfl, ?_⟩
                refine pw_iinc (b := 0) (ls' := [some (vR 6 (0)), some (vI (p)), some (vI (u)), some (vI ((i + 1)))]) r_6_tryFrom_48 rfl rfl (by omega) rfl ?_
                refine pw_goto r_6_tryFrom_51 ?_
                refine pw_eqG (G' := sF (uA (uA G 63 (0) (T1)) 64 (0) (O1)) 6 (0) 6 (B1)) (by first | rfl | (refine PH_ext (fun c r f => ?_) (fun c r i => ?_) (fun _ _ _ => rfl) <;> simp only [gF_sF, gF_sA, gF_uA, gA_sF, gA_sA, gA_uA, upA_at] <;> (repeat' split) <;> first | rfl | omega | (exfalso; omega) | (simp_all; done))) ?_
                exact ih21 ((i + 1)) (B1) (T1) (O1) (by omega) (by first | (rw [iter_s _ hi.1, ← hs, ordS_t h34]; exact hrec) | (rw [iter_s _ hi.1, ← hs, ordS_f h34])) (by first | exact hTi | exact hTr) (by omega)
        refine pw_eqG (G' := sF (uA (uA G 63 (0) (gA G 63 0)) 64 (0) (gA G 64 0)) 6 (0) 6 ((gF G 6 0 6))) (by rw [uA_self, uA_self, sF_self]) ?_
        exact L21 _ (0) ((gF G 6 0 6)) (gA G 63 0) (gA G 64 0) (by omega) (rfl) (hT) (Nat.lt_succ_self _)
      · skip
        refine pw_aload r_6_tryFrom_14 rfl ?_
        refine pw_callV (av := []) (st := []) (ls0 := [some (vR 6 (0)), none, none]) r_6_tryFrom_15 rfl rfl rfl (Nat.le_refl _) ?_
        refine sp_X6_keepIfBetter (by first | assumption | exact hz6 | omega) (by first | assumption | exact hz4 | omega) (by first | assumption | exact hgb | omega) (fun j a b => hT j a (by omega)) ?_ ?_
        · skip
          intro hk
          refine pw_vret r_6_tryFrom_18 rfl (Nat.le_refl _) ⟨rfl, ?_⟩
          first | (exfalso; omega) | (have hh := hP (gA G 63 0) (gF G 6 0 6) (gA G 64 0) (ord_not (s := (gA G 63 0, (gF G 6 0 6), gA G 64 0)) (by omega) hk).symm; rw [uA_self, uA_self, sF_self] at hh; exact hh) | (have hh := hP (gA G 63 0) _ _ (ord_better (s := (gA G 63 0, (gF G 6 0 6), gA G 64 0)) (by omega) hk).symm; rw [uA_self] at hh; exact hh)
        · skip
          intro hk
          refine pw_eqG (G' := uA (sF G 6 (0) 6 (vlI (gA G 62 0) (gF G 6 (0) 2) (gA G 60 0) (gA G 61 0) 1000000000 (gA G 63 0) (gF G 6 (0) 4))) 64 (0) (cpF (gA G 63 0) (gA G 64 0) 6)) (by first | rfl | simp (disch := decide) [gF_sF, gF_sA, gF_uA, gF_sD, gA_sF, gA_sA, gA_uA, gA_sD, gD_sF, gD_sA, gD_uA, gD_sD]) ?_
          refine pw_vret r_6_tryFrom_18 rfl (Nat.le_refl _) ⟨rfl, ?_⟩
          first | (exfalso; omega) | (have hh := hP (gA G 63 0) (gF G 6 0 6) (gA G 64 0) (ord_not (s := (gA G 63 0, (gF G 6 0 6), gA G 64 0)) (by omega) hk).symm; rw [uA_self, uA_self, sF_self] at hh; exact hh) | (have hh := hP (gA G 63 0) _ _ (ord_better (s := (gA G 63 0, (gF G 6 0 6), gA G 64 0)) (by omega) hk).symm; rw [uA_self] at hh; exact hh)
set_option maxRecDepth 10000 in
theorem sp_X6_arrange {l : Launch} {w : Wo} {d : Nat} {G : PH} {P : Option PV → PH → Prop} (hz6 : 0 ≤ (gF G 6 0 2) ∧ (gF G 6 0 2) ≤ 6) (hz4 : 0 ≤ (gF G 6 0 4) ∧ (gF G 6 0 4) ≤ 4) (hgb : ∀ j, 0 ≤ j → j < (gF G 6 0 2) → (0 ≤ (gA G 60 0 (j)) ∧ (gA G 60 0 (j)) ≤ 99) ∧ 0 ≤ (gA G 61 0 (j)) ∧ (gA G 61 0 (j)) ≤ 99) (h1 : ((gF G 6 0 2) = 0 ∨ (gF G 6 0 4) = 0) → P (some (vI (-3))) G) (h2 : (gF G 6 0 2) ≠ 0 → (gF G 6 0 4) ≠ 0 → ∀ T B O, (T, B, O) = ordN (gF G 6 0 2) (fun T => vlI (gA G 62 0) (gF G 6 0 2) (gA G 60 0) (gA G 61 0) 1000000000 T (gF G 6 0 4)) 6 7 0 0 (gA G 63 0, -1, gA G 64 0) → P (some (vI B)) (sF (sF (sF (uA (uA (sF (sF G 6 0 6 (-1)) 6 0 8 (gF G 6 0 2)) 63 0 (T)) 64 0 (O)) 6 0 6 (B)) 6 0 2 0) 6 0 4 0)) : PW l w M_X6_arrange (d + 16) 0 [some (vR 6 (0))] [] G P := by
  refine pw_aload r_6_arrange_0 rfl ?_
  refine pw_getI r_6_arrange_1 fs_6_2 (by decide) ?_
  refine pw_if_eq r_6_arrange_4 (fun h04 => ?_) (fun h04 => ?_)
  · skip
    refine pw_const r_6_arrange_14 ?_
    refine pw_iret r_6_arrange_16 rfl (Nat.le_refl _) ⟨rfl, ?_⟩
    first | exact h1 (by omega) | exact h2 (by omega) (by omega) T B O hrec
  · skip
    refine pw_aload r_6_arrange_7 rfl ?_
    refine pw_getI r_6_arrange_8 fs_6_4 (by decide) ?_
    refine pw_if_ne r_6_arrange_11 (fun h11 => ?_) (fun h11 => ?_)
    · skip
      refine pw_aload r_6_arrange_17 rfl ?_
      refine pw_const r_6_arrange_18 ?_
      refine pw_putI r_6_arrange_19 (by decide +kernel) fs_6_6 (by decide) ?_
      refine pw_aload r_6_arrange_22 rfl ?_
      refine pw_aload r_6_arrange_23 rfl ?_
      refine pw_getIv (v := gF G 6 (0) 2) r_6_arrange_24 fs_6_2 (by decide) (by first | rfl | simp [gF_sF, gF_sA, gF_uA, gF_sD, gA_sF, gA_sA, gA_uA, gA_sD, gD_sF, gD_sA, gD_uA, gD_sD]) ?_
      refine pw_putI r_6_arrange_27 (by decide +kernel) fs_6_8 (by decide) ?_
      refine pw_aload r_6_arrange_30 rfl ?_
      refine pw_const r_6_arrange_31 ?_
      refine pw_const r_6_arrange_32 ?_
      refine pw_callV (av := [vI (0), vI (0)]) (st := []) (ls0 := [some (vR 6 (0)), some (vI (0)), some (vI (0)), none]) r_6_arrange_33 rfl rfl rfl (Nat.le_refl _) ?_
      refine sp_X6_tryFrom (7) (d := d) (by omega) (hz6) (hz4) (hgb) (⟨by omega, hz6.1⟩) (fun j a b => by omega) ?_
      intro T B O hrec
      refine pw_aload r_6_arrange_36 rfl ?_
      refine pw_const r_6_arrange_37 ?_
      refine pw_putI r_6_arrange_38 (by decide +kernel) fs_6_2 (by decide) ?_
      refine pw_aload r_6_arrange_41 rfl ?_
      refine pw_const r_6_arrange_42 ?_
      refine pw_putI r_6_arrange_43 (by decide +kernel) fs_6_4 (by decide) ?_
      refine pw_aload r_6_arrange_46 rfl ?_
      refine pw_getIv (v := B) r_6_arrange_47 fs_6_6 (by decide) (by first | rfl | simp [gF_sF, gF_sA, gF_uA, gF_sD, gA_sF, gA_sA, gA_uA, gA_sD, gD_sF, gD_sA, gD_uA, gD_sD]) ?_
      refine pw_iret r_6_arrange_50 rfl (Nat.le_refl _) ⟨rfl, ?_⟩
      first | exact h1 (by omega) | exact h2 (by omega) (by omega) T B O hrec
    · skip
      refine pw_const r_6_arrange_14 ?_
      refine pw_iret r_6_arrange_16 rfl (Nat.le_refl _) ⟨rfl, ?_⟩
      first | exact h1 (by omega) | exact h2 (by omega) (by omega) T B O hrec
set_option maxRecDepth 10000 in
theorem sp_X12_leastCome {l : Launch} {w : Wo} {d : Nat} {G : PH} {P : Option PV → PH → Prop} (hz6 : 0 ≤ (gF G 12 0 96) ∧ (gF G 12 0 96) ≤ 6) (hz4 : 0 ≤ (gF G 12 0 98) ∧ (gF G 12 0 98) ≤ 4) (hgb : ∀ j, 0 ≤ j → j < (gF G 12 0 96) → (0 ≤ (gA G 264 0 (j)) ∧ (gA G 264 0 (j)) ≤ 99) ∧ 0 ≤ (gA G 265 0 (j)) ∧ (gA G 265 0 (j)) ≤ 99) (hT : ∀ j, 0 ≤ j → j < (gF G 12 0 96) → 0 ≤ (gA G 267 0 (j)) ∧ (gA G 267 0 (j)) < (gF G 12 0 96)) (hP : P (some (vI (vlI (gA G 266 0) (gF G 12 0 96) (gA G 264 0) (gA G 265 0) 100000 (gA G 267 0) (gF G 12 0 98)))) G) : PW l w M_X12_leastCome (d + 0) 0 [some (vR 12 (0)), none, none, none, none, none] [] G P := by
  refine pw_const r_12_leastCome_0 ?_
  refine pw_istore (ls' := [some (vR 12 (0)), some (vI (100000)), none, none, none, none]) r_12_leastCome_3 rfl rfl ?_
  refine pw_const r_12_leastCome_4 ?_
  refine pw_istore (ls' := [some (vR 12 (0)), some (vI (100000)), some (vI (0)), none, none, none]) r_12_leastCome_5 rfl rfl ?_
  have L6 : ∀ (nF : Nat) (a v : Int), (ha : 0 ≤ a ∧ a ≤ (gF G 12 0 98)) → (hv : v = vlI (gA G 266 0) (gF G 12 0 96) (gA G 264 0) (gA G 265 0) 100000 (gA G 267 0) a) → ((gF G 12 0 98) - a).toNat < nF → PW l w M_X12_leastCome (d + 0) 6 [some (vR 12 (0)), some (vI (v)), some (vI (a)), none, none, none] [] G P := by
    intro nF
    induction nF with
    | zero => intro _ _ _ _ hM; exact absurd hM (Nat.not_lt_zero _)
    | succ nF ih6 =>
      intro a v ha hv hM6
      refine pw_iload r_12_leastCome_6 rfl ?_
      refine pw_aload r_12_leastCome_7 rfl ?_
      refine pw_getI r_12_leastCome_8 fs_12_98 (by decide) ?_
      refine pw_icmp_ge r_12_leastCome_11 (fun h11 => ?_) (fun h11 => ?_)
      · skip
        refine pw_iload r_12_leastCome_98 rfl ?_
        refine pw_iret r_12_leastCome_99 rfl (Nat.le_refl _) ⟨rfl, ?_⟩
        rw [show (gF G 12 0 98) = a by omega] at hP
        exact pe hP hv
      · skip
        refine pw_const r_12_leastCome_14 ?_
        refine pw_istore (ls' := [some (vR 12 (0)), some (vI (v)), some (vI (a)), some (vI (0)), none, none]) r_12_leastCome_15 rfl rfl ?_
        refine pw_const r_12_leastCome_16 ?_
        refine pw_istore (ls' := [some (vR 12 (0)), some (vI (v)), some (vI (a)), some (vI (0)), some (vI (0)), none]) r_12_leastCome_17 rfl rfl ?_
        refine pw_const r_12_leastCome_19 ?_
        refine pw_istore (ls' := [some (vR 12 (0)), some (vI (v)), some (vI (a)), some (vI (0)), some (vI (0)), some (vI (0))]) r_12_leastCome_20 rfl rfl ?_
        have L22 : ∀ (nF : Nat) (i x y : Int), (hi : 0 ≤ i ∧ i ≤ (gF G 12 0 96)) → (hx : (cmI (gA G 264 0) (gA G 265 0) (gA G 267 0) (gA G 266 0 (a)) i) = (x, y)) → (hxb : (0 ≤ x ∧ x ≤ 99 * i) ∧ 0 ≤ y ∧ y ≤ 99 * i) → ((gF G 12 0 96) - i).toNat < nF → PW l w M_X12_leastCome (d + 0) 22 [some (vR 12 (0)), some (vI (v)), some (vI (a)), some (vI (x)), some (vI (y)), some (vI (i))] [] G P := by
          intro nF
          induction nF with
          | zero => intro _ _ _ _ _ _ hM; exact absurd hM (Nat.not_lt_zero _)
          | succ nF ih22 =>
            intro i x y hi hx hxb hM22
            refine pw_iload r_12_leastCome_22 rfl ?_
            refine pw_aload r_12_leastCome_24 rfl ?_
            refine pw_getI r_12_leastCome_25 fs_12_96 (by decide) ?_
            refine pw_icmp_ge r_12_leastCome_28 (fun h28 => ?_) (fun h28 => ?_)
            · skip
              have hcm : (cmI (gA G 264 0) (gA G 265 0) (gA G 267 0) (gA G 266 0 (a)) (gF G 12 0 96)).2 = y := by rw [show (gF G 12 0 96) = i by omega, hx]
              refine pw_iload r_12_leastCome_79 rfl ?_
              refine pw_iload r_12_leastCome_81 rfl ?_
              refine pw_icmp_ge r_12_leastCome_82 (fun h82 => ?_) (fun h82 => ?_)
              · skip
                refine pw_iload r_12_leastCome_90 rfl ?_
                refine pw_istore (ls' := [some (vR 12 (0)), some (vI (v)), some (vI (a)), some (vI (x)), some (vI (y)), some (vI (i))]) r_12_leastCome_91 rfl rfl ?_
                refine pw_iinc (b := 0) (ls' := [some (vR 12 (0)), some (vI (v)), some (vI ((a + 1))), some (vI (x)), some (vI (y)), some (vI (i))]) r_12_leastCome_92 rfl rfl (by omega) rfl ?_
                refine pw_goto r_12_leastCome_95 ?_
                refine pw_weakL (ls' := [some (vR 12 (0)), some (vI (v)), some (vI ((a + 1))), none, none, none]) (⟨rfl, ⟨rfl, ⟨rfl, trivial⟩⟩⟩) ?_
                exact ih6 ((a + 1)) (v) (by omega) (by rw [vl_s _ _ _ _ _ _ ha.1, ← hv, hcm]; omega) (by omega)
              · skip
                refine pw_iload r_12_leastCome_85 rfl ?_
                refine pw_goto r_12_leastCome_87 ?_
                refine pw_istore (ls' := [some (vR 12 (0)), some (vI (y)), some (vI (a)), some (vI (x)), some (vI (y)), some (vI (i))]) r_12_leastCome_91 rfl rfl ?_
                refine pw_iinc (b := 0) (ls' := [some (vR 12 (0)), some (vI (y)), some (vI ((a + 1))), some (vI (x)), some (vI (y)), some (vI (i))]) r_12_leastCome_92 rfl rfl (by omega) rfl ?_
                refine pw_goto r_12_leastCome_95 ?_
                refine pw_weakL (ls' := [some (vR 12 (0)), some (vI (y)), some (vI ((a + 1))), none, none, none]) (⟨rfl, ⟨rfl, ⟨rfl, trivial⟩⟩⟩) ?_
                exact ih6 ((a + 1)) (y) (by omega) (by rw [vl_s _ _ _ _ _ _ ha.1, ← hv, hcm]; omega) (by omega)
            · skip
              refine pw_iload r_12_leastCome_31 rfl ?_
              refine pw_aload r_12_leastCome_32 rfl ?_
              refine pw_getR r_12_leastCome_33 fs_12_97 (by decide) ?_
              refine pw_iload r_12_leastCome_36 rfl ?_
              refine pw_iald r_12_leastCome_37 sh266 (by omega) (by omega) ?_
              refine pw_icmp_ge r_12_leastCome_38 (fun h38 => ?_) (fun h38 => ?_)
              · skip
                have hcm : (cmI (gA G 264 0) (gA G 265 0) (gA G 267 0) (gA G 266 0 (a)) (gF G 12 0 96)).2 = y := by rw [cm_stop hi.1 hi.2 (by rw [hx]; show ¬ x < (gA G 266 0 (a)); omega), hx]
                refine pw_iload r_12_leastCome_79 rfl ?_
                refine pw_iload r_12_leastCome_81 rfl ?_
                refine pw_icmp_ge r_12_leastCome_82 (fun h82 => ?_) (fun h82 => ?_)
                · skip
                  refine pw_iload r_12_leastCome_90 rfl ?_
                  refine pw_istore (ls' := [some (vR 12 (0)), some (vI (v)), some (vI (a)), some (vI (x)), some (vI (y)), some (vI (i))]) r_12_leastCome_91 rfl rfl ?_
                  refine pw_iinc (b := 0) (ls' := [some (vR 12 (0)), some (vI (v)), some (vI ((a + 1))), some (vI (x)), some (vI (y)), some (vI (i))]) r_12_leastCome_92 rfl rfl (by omega) rfl ?_
                  refine pw_goto r_12_leastCome_95 ?_
                  refine pw_weakL (ls' := [some (vR 12 (0)), some (vI (v)), some (vI ((a + 1))), none, none, none]) (⟨rfl, ⟨rfl, ⟨rfl, trivial⟩⟩⟩) ?_
                  exact ih6 ((a + 1)) (v) (by omega) (by rw [vl_s _ _ _ _ _ _ ha.1, ← hv, hcm]; omega) (by omega)
                · skip
                  refine pw_iload r_12_leastCome_85 rfl ?_
                  refine pw_goto r_12_leastCome_87 ?_
                  refine pw_istore (ls' := [some (vR 12 (0)), some (vI (y)), some (vI (a)), some (vI (x)), some (vI (y)), some (vI (i))]) r_12_leastCome_91 rfl rfl ?_
                  refine pw_iinc (b := 0) (ls' := [some (vR 12 (0)), some (vI (y)), some (vI ((a + 1))), some (vI (x)), some (vI (y)), some (vI (i))]) r_12_leastCome_92 rfl rfl (by omega) rfl ?_
                  refine pw_goto r_12_leastCome_95 ?_
                  refine pw_weakL (ls' := [some (vR 12 (0)), some (vI (y)), some (vI ((a + 1))), none, none, none]) (⟨rfl, ⟨rfl, ⟨rfl, trivial⟩⟩⟩) ?_
                  exact ih6 ((a + 1)) (y) (by omega) (by rw [vl_s _ _ _ _ _ _ ha.1, ← hv, hcm]; omega) (by omega)
              · skip
                have ht := hT i hi.1 (by omega)
                have hg := hgb ((gA G 267 0 (i))) ht.1 ht.2
                refine pw_iload r_12_leastCome_41 rfl ?_
                refine pw_aload r_12_leastCome_42 rfl ?_
                refine pw_getR r_12_leastCome_43 fs_12_94 (by decide) ?_
                refine pw_aload r_12_leastCome_46 rfl ?_
                refine pw_getR r_12_leastCome_47 fs_12_99 (by decide) ?_
                refine pw_iload r_12_leastCome_50 rfl ?_
                refine pw_iald r_12_leastCome_52 sh267 (by omega) (by omega) ?_
                refine pw_iald r_12_leastCome_53 sh264 (by omega) (by omega) ?_
                refine pw_iadd r_12_leastCome_54 (by omega) ?_
                refine pw_istore (ls' := [some (vR 12 (0)), some (vI (v)), some (vI (a)), some (vI ((x + (gA G 264 (0) (gA G 267 (0) (i)))))), some (vI (y)), some (vI (i))]) r_12_leastCome_55 rfl rfl ?_
                refine pw_iload r_12_leastCome_56 rfl ?_
                refine pw_aload r_12_leastCome_58 rfl ?_
                refine pw_getR r_12_leastCome_59 fs_12_95 (by decide) ?_
                refine pw_aload r_12_leastCome_62 rfl ?_
                refine pw_getR r_12_leastCome_63 fs_12_99 (by decide) ?_
                refine pw_iload r_12_leastCome_66 rfl ?_
                refine pw_iald r_12_leastCome_68 sh267 (by omega) (by omega) ?_
                refine pw_iald r_12_leastCome_69 sh265 (by omega) (by omega) ?_
                refine pw_iadd r_12_leastCome_70 (by omega) ?_
                refine pw_istore (ls' := [some (vR 12 (0)), some (vI (v)), some (vI (a)), some (vI ((x + (gA G 264 (0) (gA G 267 (0) (i)))))), some (vI ((y + (gA G 265 (0) (gA G 267 (0) (i)))))), some (vI (i))]) r_12_leastCome_71 rfl rfl ?_
                refine pw_iinc (b := 0) (ls' := [some (vR 12 (0)), some (vI (v)), some (vI (a)), some (vI ((x + (gA G 264 (0) (gA G 267 (0) (i)))))), some (vI ((y + (gA G 265 (0) (gA G 267 (0) (i)))))), some (vI ((i + 1)))]) r_12_leastCome_73 rfl rfl (by omega) rfl ?_
                refine pw_goto r_12_leastCome_76 ?_
                exact ih22 ((i + 1)) ((x + (gA G 264 (0) (gA G 267 (0) (i))))) ((y + (gA G 265 (0) (gA G 267 (0) (i))))) (by omega) (by rw [cm_s hi.1 (by rw [hx]; exact h38), hx]) (by omega) (by omega)
        exact L22 _ (0) (0) (0) (by omega) (rfl) (by omega) (Nat.lt_succ_self _)
  exact L6 _ (0) (100000) (by omega) (rfl) (Nat.lt_succ_self _)
set_option maxRecDepth 10000 in
theorem sp_X12_orders {l : Launch} {w : Wo} : ∀ (n0 : Nat), ∀ {d : Nat} {G : PH} {P : Option PV → PH → Prop} {p u : Int}, ((n0 : Int) + p = 7) → (0 ≤ (gF G 12 0 96) ∧ (gF G 12 0 96) ≤ 6) → (0 ≤ (gF G 12 0 98) ∧ (gF G 12 0 98) ≤ 4) → (∀ j, 0 ≤ j → j < (gF G 12 0 96) → (0 ≤ (gA G 264 0 (j)) ∧ (gA G 264 0 (j)) ≤ 99) ∧ 0 ≤ (gA G 265 0 (j)) ∧ (gA G 265 0 (j)) ≤ 99) → (0 ≤ p ∧ p ≤ (gF G 12 0 96)) → (∀ j, 0 ≤ j → j < p → 0 ≤ (gA G 267 0 (j)) ∧ (gA G 267 0 (j)) < (gF G 12 0 96)) → (∀ T B O, (T, B, O) = ordN (gF G 12 0 96) (fun T => vlI (gA G 266 0) (gF G 12 0 96) (gA G 264 0) (gA G 265 0) 100000 T (gF G 12 0 98)) (gF G 12 0 96) n0 p u (gA G 267 0, (gF G 12 0 102), gA G 268 0) → P none (sF (uA (uA G 267 0 (T)) 268 0 (O)) 12 0 102 (B))) → PW l w M_X12_orders (d + n0 + 1) 0 [some (vR 12 (0)), some (vI (p)), some (vI (u)), none, none] [] G P := by
  intro n0
  induction n0 with
  | zero => intros; exfalso; omega
  | succ nR ihR =>
    intro d G P p u hM hz6 hz4 hgb hp hT hP
    rw [show d + (nR + 1) + 1 = d + nR + 2 by omega]
    refine pw_iload r_12_orders_0 rfl ?_
    refine pw_aload r_12_orders_1 rfl ?_
    refine pw_getI r_12_orders_2 fs_12_96 (by decide) ?_
    refine pw_icmp_ne r_12_orders_5 (fun h05 => ?_) (fun h05 => ?_)
    · skip
      have hpn : p < (gF G 12 0 96) := by omega
      refine pw_const r_12_orders_59 ?_
      refine pw_istore (ls' := [some (vR 12 (0)), some (vI (p)), some (vI (u)), some (vI (0)), none]) r_12_orders_60 rfl rfl ?_
      have L61 : ∀ (nF : Nat) (i B : Int) (T O : Int → Int), (hi : 0 ≤ i ∧ i ≤ (gF G 12 0 96)) → (hs : (T, B, O) = iterI (ordS (gF G 12 0 96) (fun T => vlI (gA G 266 0) (gF G 12 0 96) (gA G 264 0) (gA G 265 0) 100000 T (gF G 12 0 98)) (gF G 12 0 96) nR p u) i (gA G 267 0, (gF G 12 0 102), gA G 268 0)) → (hTi : ∀ j, 0 ≤ j → j < p → 0 ≤ T j ∧ T j < (gF G 12 0 96)) → ((gF G 12 0 96) - i).toNat < nF → PW l w M_X12_orders (d + nR + 2) 61 [some (vR 12 (0)), some (vI (p)), some (vI (u)), some (vI (i)), none] [] (sF (uA (uA G 267 (0) (T)) 268 (0) (O)) 12 (0) 102 (B)) P := by
        intro nF
        induction nF with
        | zero => intro _ _ _ _ _ _ _ hM; exact absurd hM (Nat.not_lt_zero _)
        | succ nF ih61 =>
          intro i B T O hi hs hTi hM61
          refine pw_iload r_12_orders_61 rfl ?_
          refine pw_aload r_12_orders_62 rfl ?_
          refine pw_getIv (v := gF G 12 (0) 96) r_12_orders_63 fs_12_96 (by decide) (by first | rfl | simp [gF_sF, gF_sA, gF_uA, gF_sD, gA_sF, gA_sA, gA_uA, gA_sD, gD_sF, gD_sA, gD_uA, gD_sD]) ?_
          refine pw_icmp_ge r_12_orders_66 (fun h66 => ?_) (fun h66 => ?_)
          · skip
            refine pw_vret r_12_orders_102 rfl (Nat.le_refl _) ⟨rfl, ?_⟩
            have ei : i = (gF G 12 0 96) := by omega
            subst ei
            exact hP T B O (hs.trans (ord_loop hpn).symm)
          · skip
            refine pw_iload r_12_orders_69 rfl ?_
            refine pw_iload r_12_orders_70 rfl ?_
            refine pw_ishr r_12_orders_71 ?_
            refine pw_const r_12_orders_72 ?_
            refine pw_iand r_12_orders_73 ?_
            refine pw_if_ne r_12_orders_74 (fun h74 => ?_) (fun h74 => ?_)
            · skip
              refine pw_iinc (b := 0) (ls' := [some (vR 12 (0)), some (vI (p)), some (vI (u)), some (vI ((i + 1))), none]) r_12_orders_96 rfl rfl (by omega) rfl ?_
              refine pw_goto r_12_orders_99 ?_
              exact ih61 ((i + 1)) (B) (T) (O) (by omega) (by first | (rw [iter_s _ hi.1, ← hs, ordS_t h74]; exact hrec) | (rw [iter_s _ hi.1, ← hs, ordS_f h74])) (by first | exact hTi | exact hTr) (by omega)
            · skip
              refine pw_aload r_12_orders_77 rfl ?_
              refine pw_getR r_12_orders_78 fs_12_99 (by decide) ?_
              refine pw_iload r_12_orders_81 rfl ?_
              refine pw_iload r_12_orders_82 rfl ?_
              refine pw_iast r_12_orders_83 sh267 (by omega) (by omega) ?_
              refine pw_aload r_12_orders_84 rfl ?_
              refine pw_iload r_12_orders_85 rfl ?_
              refine pw_const r_12_orders_86 ?_
              refine pw_iadd r_12_orders_87 (by omega) ?_
              refine pw_iload r_12_orders_88 rfl ?_
              refine pw_const r_12_orders_89 ?_
              refine pw_iload r_12_orders_90 rfl ?_
              refine pw_ishl r_12_orders_91 ?_
              refine pw_ior r_12_orders_92 ?_
              refine pw_callV (av := [vI ((p + 1)), vI (pOr u (pShl 1 i))]) (st := []) (ls0 := [some (vR 12 (0)), some (vI ((p + 1))), some (vI (pOr u (pShl 1 i))), none, none]) r_12_orders_93 rfl rfl rfl (Nat.le_refl _) ?_
              refine ihR (d := d) (by omega) (hz6) (hz4) (hgb) (⟨by omega, show p + 1 ≤ (gF G 12 0 96) by omega⟩) (fun j a b => by show 0 ≤ gA (sA (sF (uA (uA G 267 0 (T)) 268 0 (O)) 12 0 102 (B)) 267 0 p i) 267 0 j ∧ gA (sA (sF (uA (uA G 267 0 (T)) 268 0 (O)) 12 0 102 (B)) 267 0 p i) 267 0 j < (gF G 12 0 96); rw [gA_sA_fn]; by_cases e : j = p; (rw [e, upA_same]; omega); (rw [upA_ne e]; exact hTi j a (by omega))) ?_
              intro T1 B1 O1 hrec
              rw [gA_sA_fn] at hrec
              have hTr : ∀ j, 0 ≤ j → j < p → 0 ≤ T1 j ∧ T1 j < (gF G 12 0 96) := fun j a b => by rw [show T1 j = T j from (congrArg (fun q : OSt => q.1 j) hrec).trans ((ord_keep hz6.1 (show j < p + 1 by omega)).trans (upA_ne (by omega)))]; exact hTi j a b
              refine pw_iinc (b := 0) (ls' := [some (vR 12 (0)), some (vI (p)), some (vI (u)), some (vI ((i + 1))), none]) r_12_orders_96 rfl rfl (by omega) rfl ?_
              refine pw_goto r_12_orders_99 ?_
              refine pw_eqG (G' := sF (uA (uA G 267 (0) (T1)) 268 (0) (O1)) 12 (0) 102 (B1)) (by first | rfl | (refine PH_ext (fun c r f => ?_) (fun c r i => ?_) (fun _ _ _ => rfl) <;> simp only [gF_sF, gF_sA, gF_uA, gA_sF, gA_sA, gA_uA, upA_at] <;> (repeat' split) <;> first | rfl | omega | (exfalso; omega) | (simp_all; done))) ?_
              exact ih61 ((i + 1)) (B1) (T1) (O1) (by omega) (by first | (rw [iter_s _ hi.1, ← hs, ordS_t h74]; exact hrec) | (rw [iter_s _ hi.1, ← hs, ordS_f h74])) (by first | exact hTi | exact hTr) (by omega)
      refine pw_eqG (G' := sF (uA (uA G 267 (0) (gA G 267 0)) 268 (0) (gA G 268 0)) 12 (0) 102 ((gF G 12 0 102))) (by rw [uA_self, uA_self, sF_self]) ?_
      exact L61 _ (0) ((gF G 12 0 102)) (gA G 267 0) (gA G 268 0) (by omega) (rfl) (hT) (Nat.lt_succ_self _)
    · skip
      refine pw_aload r_12_orders_8 rfl ?_
      refine pw_callV (av := []) (st := []) (ls0 := [some (vR 12 (0)), none, none, none, none, none]) r_12_orders_9 rfl rfl rfl (Nat.le_refl _) ?_
      refine sp_X12_leastCome (by first | assumption | exact hz6 | omega) (by first | assumption | exact hz4 | omega) (by first | assumption | exact hgb | omega) (fun j a b => hT j a (by omega)) ?_
      refine pw_istore (ls' := [some (vR 12 (0)), some (vI (p)), some (vI (u)), some (vI (vlI (gA G 266 0) (gF G 12 0 96) (gA G 264 0) (gA G 265 0) 100000 (gA G 267 0) (gF G 12 0 98))), none]) r_12_orders_12 rfl rfl ?_
      refine pw_iload r_12_orders_13 rfl ?_
      refine pw_aload r_12_orders_14 rfl ?_
      refine pw_getI r_12_orders_15 fs_12_102 (by decide) ?_
      refine pw_icmp_le r_12_orders_18 (fun h18 => ?_) (fun h18 => ?_)
      · skip
        refine pw_vret r_12_orders_58 rfl (Nat.le_refl _) ⟨rfl, ?_⟩
        first | (have hh := hP (gA G 267 0) (gF G 12 0 102) (gA G 268 0) (ord_not (s := (gA G 267 0, (gF G 12 0 102), gA G 268 0)) (by omega) (by show ¬ (gF G 12 0 102) < vlI (gA G 266 0) (gF G 12 0 96) (gA G 264 0) (gA G 265 0) 100000 (gA G 267 0) (gF G 12 0 98); omega)).symm; rw [uA_self, uA_self, sF_self] at hh; exact hh) | (have hh := hP (gA G 267 0) _ _ (ord_better (s := (gA G 267 0, (gF G 12 0 102), gA G 268 0)) (by omega) (show (gF G 12 0 102) < vlI (gA G 266 0) (gF G 12 0 96) (gA G 264 0) (gA G 265 0) 100000 (gA G 267 0) (gF G 12 0 98) by omega)).symm; rw [uA_self, ← fil_cpF] at hh; rw [show i = (gF G 12 0 96) by omega]; exact hh)
      · skip
        refine pw_aload r_12_orders_21 rfl ?_
        refine pw_iload r_12_orders_22 rfl ?_
        refine pw_putI r_12_orders_23 (by decide +kernel) fs_12_102 (by decide) ?_
        refine pw_const r_12_orders_26 ?_
        refine pw_istore (ls' := [some (vR 12 (0)), some (vI (p)), some (vI (u)), some (vI (vlI (gA G 266 0) (gF G 12 0 96) (gA G 264 0) (gA G 265 0) 100000 (gA G 267 0) (gF G 12 0 98))), some (vI (0))]) r_12_orders_27 rfl rfl ?_
        have L29 : ∀ (nF : Nat) (i : Int), (hi : 0 ≤ i ∧ i ≤ (gF G 12 0 96)) → ((gF G 12 0 96) - i).toNat < nF → PW l w M_X12_orders (d + nR + 2) 29 [some (vR 12 (0)), some (vI (p)), some (vI (u)), some (vI (vlI (gA G 266 0) (gF G 12 0 96) (gA G 264 0) (gA G 265 0) 100000 (gA G 267 0) (gF G 12 0 98))), some (vI (i))] [] (uA (sF G 12 (0) 102 (vlI (gA G 266 0) (gF G 12 0 96) (gA G 264 0) (gA G 265 0) 100000 (gA G 267 0) (gF G 12 0 98))) 268 (0) (filF (fun _ => True) (gA G 267 0) (gA G 268 0) i)) P := by
          intro nF
          induction nF with
          | zero => intro _ _ hM; exact absurd hM (Nat.not_lt_zero _)
          | succ nF ih29 =>
            intro i hi hM29
            refine pw_iload r_12_orders_29 rfl ?_
            refine pw_aload r_12_orders_31 rfl ?_
            refine pw_getIv (v := gF G 12 (0) 96) r_12_orders_32 fs_12_96 (by decide) (by first | rfl | simp [gF_sF, gF_sA, gF_uA, gF_sD, gA_sF, gA_sA, gA_uA, gA_sD, gD_sF, gD_sA, gD_uA, gD_sD]) ?_
            refine pw_icmp_ge r_12_orders_35 (fun h35 => ?_) (fun h35 => ?_)
            · skip
              refine pw_vret r_12_orders_58 rfl (Nat.le_refl _) ⟨rfl, ?_⟩
              first | (have hh := hP (gA G 267 0) (gF G 12 0 102) (gA G 268 0) (ord_not (s := (gA G 267 0, (gF G 12 0 102), gA G 268 0)) (by omega) (by show ¬ (gF G 12 0 102) < vlI (gA G 266 0) (gF G 12 0 96) (gA G 264 0) (gA G 265 0) 100000 (gA G 267 0) (gF G 12 0 98); omega)).symm; rw [uA_self, uA_self, sF_self] at hh; exact hh) | (have hh := hP (gA G 267 0) _ _ (ord_better (s := (gA G 267 0, (gF G 12 0 102), gA G 268 0)) (by omega) (show (gF G 12 0 102) < vlI (gA G 266 0) (gF G 12 0 96) (gA G 264 0) (gA G 265 0) 100000 (gA G 267 0) (gF G 12 0 98) by omega)).symm; rw [uA_self, ← fil_cpF] at hh; rw [show i = (gF G 12 0 96) by omega]; exact hh)
            · skip
              refine pw_aload r_12_orders_38 rfl ?_
              refine pw_getR r_12_orders_39 fs_12_100 (by decide) ?_
              refine pw_iload r_12_orders_42 rfl ?_
              refine pw_aload r_12_orders_44 rfl ?_
              refine pw_getR r_12_orders_45 fs_12_99 (by decide) ?_
              refine pw_iload r_12_orders_48 rfl ?_
              refine pw_ialdv (v := gA G 267 (0) (i)) r_12_orders_50 sh267 (by omega) (by omega) (by first | rfl | simp [gF_sF, gF_sA, gF_uA, gF_sD, gA_sF, gA_sA, gA_uA, gA_sD, gD_sF, gD_sA, gD_uA, gD_sD]) ?_
              refine pw_iast r_12_orders_51 sh268 (by omega) (by omega) ?_
              refine pw_iinc (b := 0) (ls' := [some (vR 12 (0)), some (vI (p)), some (vI (u)), some (vI (vlI (gA G 266 0) (gF G 12 0 96) (gA G 264 0) (gA G 265 0) 100000 (gA G 267 0) (gF G 12 0 98))), some (vI ((i + 1)))]) r_12_orders_52 rfl rfl (by omega) rfl ?_
              refine pw_goto r_12_orders_55 ?_
              refine pw_eqG (G' := uA (sF G 12 (0) 102 (vlI (gA G 266 0) (gF G 12 0 96) (gA G 264 0) (gA G 265 0) 100000 (gA G 267 0) (gF G 12 0 98))) 268 (0) (filF (fun _ => True) (gA G 267 0) (gA G 268 0) (i + 1))) (by rw [sA_uA, fil_s (q := fun _ => True) (v := gA G 267 0) hi.1 trivial rfl]) ?_
              exact ih29 ((i + 1)) (by omega) (by omega)
        refine pw_eqG (G' := uA (sF G 12 (0) 102 (vlI (gA G 266 0) (gF G 12 0 96) (gA G 264 0) (gA G 265 0) 100000 (gA G 267 0) (gF G 12 0 98))) 268 (0) (filF (fun _ => True) (gA G 267 0) (gA G 268 0) 0)) (by rw [fil_0]; exact (uA_self _ 268 0).symm) ?_
        exact L29 _ (0) (by omega) (Nat.lt_succ_self _)
set_option maxRecDepth 10000 in
theorem sp_X12_order {l : Launch} {w : Wo} {d : Nat} {G : PH} {P : Option PV → PH → Prop} (hz6 : 0 ≤ (gF G 12 0 96) ∧ (gF G 12 0 96) ≤ 6) (hz4 : 0 ≤ (gF G 12 0 98) ∧ (gF G 12 0 98) ≤ 4) (hgb : ∀ j, 0 ≤ j → j < (gF G 12 0 96) → (0 ≤ (gA G 264 0 (j)) ∧ (gA G 264 0 (j)) ≤ 99) ∧ 0 ≤ (gA G 265 0 (j)) ∧ (gA G 265 0 (j)) ≤ 99) (h1 : ((gF G 12 0 96) = 0 ∨ (gF G 12 0 98) = 0) → P (some (vI (-3))) G) (h2 : (gF G 12 0 96) ≠ 0 → (gF G 12 0 98) ≠ 0 → ∀ T B O, (T, B, O) = ordN (gF G 12 0 96) (fun T => vlI (gA G 266 0) (gF G 12 0 96) (gA G 264 0) (gA G 265 0) 100000 T (gF G 12 0 98)) (gF G 12 0 96) 7 0 0 (gA G 267 0, -1, gA G 268 0) → P (some (vI B)) (sF (sF (sF (sF (uA (uA (sF G 12 0 102 (-1)) 267 0 (T)) 268 0 (O)) 12 0 102 (B)) 12 0 101 (gF G 12 0 96)) 12 0 96 0) 12 0 98 0)) : PW l w M_X12_order (d + 9) 0 [some (vR 12 (0))] [] G P := by
  refine pw_aload r_12_order_0 rfl ?_
  refine pw_getI r_12_order_1 fs_12_96 (by decide) ?_
  refine pw_if_eq r_12_order_4 (fun h04 => ?_) (fun h04 => ?_)
  · skip
    refine pw_const r_12_order_14 ?_
    refine pw_iret r_12_order_16 rfl (Nat.le_refl _) ⟨rfl, ?_⟩
    first | exact h1 (by omega) | exact h2 (by omega) (by omega) T B O hrec
  · skip
    refine pw_aload r_12_order_7 rfl ?_
    refine pw_getI r_12_order_8 fs_12_98 (by decide) ?_
    refine pw_if_ne r_12_order_11 (fun h11 => ?_) (fun h11 => ?_)
    · skip
      refine pw_aload r_12_order_17 rfl ?_
      refine pw_const r_12_order_18 ?_
      refine pw_putI r_12_order_19 (by decide +kernel) fs_12_102 (by decide) ?_
      refine pw_aload r_12_order_22 rfl ?_
      refine pw_const r_12_order_23 ?_
      refine pw_const r_12_order_24 ?_
      refine pw_callV (av := [vI (0), vI (0)]) (st := []) (ls0 := [some (vR 12 (0)), some (vI (0)), some (vI (0)), none, none]) r_12_order_25 rfl rfl rfl (Nat.le_refl _) ?_
      refine sp_X12_orders (7) (d := d) (by omega) (hz6) (hz4) (hgb) (⟨by omega, hz6.1⟩) (fun j a b => by omega) ?_
      intro T B O hrec
      refine pw_aload r_12_order_28 rfl ?_
      refine pw_aload r_12_order_29 rfl ?_
      refine pw_getIv (v := gF G 12 (0) 96) r_12_order_30 fs_12_96 (by decide) (by first | rfl | simp [gF_sF, gF_sA, gF_uA, gF_sD, gA_sF, gA_sA, gA_uA, gA_sD, gD_sF, gD_sA, gD_uA, gD_sD]) ?_
      refine pw_putI r_12_order_33 (by decide +kernel) fs_12_101 (by decide) ?_
      refine pw_aload r_12_order_36 rfl ?_
      refine pw_const r_12_order_37 ?_
      refine pw_putI r_12_order_38 (by decide +kernel) fs_12_96 (by decide) ?_
      refine pw_aload r_12_order_41 rfl ?_
      refine pw_const r_12_order_42 ?_
      refine pw_putI r_12_order_43 (by decide +kernel) fs_12_98 (by decide) ?_
      refine pw_aload r_12_order_46 rfl ?_
      refine pw_getIv (v := B) r_12_order_47 fs_12_102 (by decide) (by first | rfl | simp [gF_sF, gF_sA, gF_uA, gF_sD, gA_sF, gA_sA, gA_uA, gA_sD, gD_sF, gD_sA, gD_uA, gD_sD]) ?_
      refine pw_iret r_12_order_50 rfl (Nat.le_refl _) ⟨rfl, ?_⟩
      first | exact h1 (by omega) | exact h2 (by omega) (by omega) T B O hrec
    · skip
      refine pw_const r_12_order_14 ?_
      refine pw_iret r_12_order_16 rfl (Nat.le_refl _) ⟨rfl, ?_⟩
      first | exact h1 (by omega) | exact h2 (by omega) (by omega) T B O hrec
set_option maxRecDepth 10000 in
theorem sp_X11_order {l : Launch} {w : Wo} {d : Nat} {G : PH} {P : Option PV → PH → Prop} (hz6 : 0 ≤ (gF G 6 0 2) ∧ (gF G 6 0 2) ≤ 6) (hz4 : 0 ≤ (gF G 6 0 4) ∧ (gF G 6 0 4) ≤ 4) (hgb : ∀ j, 0 ≤ j → j < (gF G 6 0 2) → (0 ≤ (gA G 60 0 (j)) ∧ (gA G 60 0 (j)) ≤ 99) ∧ 0 ≤ (gA G 61 0 (j)) ∧ (gA G 61 0 (j)) ≤ 99) (h1 : ((gF G 6 0 2) = 0 ∨ (gF G 6 0 4) = 0) → P (some (vI (-3))) G) (h2 : (gF G 6 0 2) ≠ 0 → (gF G 6 0 4) ≠ 0 → ∀ T B O, (T, B, O) = ordN (gF G 6 0 2) (fun T => vlI (gA G 62 0) (gF G 6 0 2) (gA G 60 0) (gA G 61 0) 1000000000 T (gF G 6 0 4)) 6 7 0 0 (gA G 63 0, -1, gA G 64 0) → P (some (vI B)) (sF (sF (sF (uA (uA (sF (sF G 6 0 6 (-1)) 6 0 8 (gF G 6 0 2)) 63 0 (T)) 64 0 (O)) 6 0 6 (B)) 6 0 2 0) 6 0 4 0)) : PW l w M_X11_order (d + 17) 0 [some (vR 11 (0))] [] G P := by
  refine pw_aload r_11_order_0 rfl ?_
  refine pw_getR r_11_order_1 fs_11_8 (by decide) ?_
  refine pw_callV (av := []) (st := []) (ls0 := [some (vR 6 (0))]) r_11_order_4 rfl rfl rfl (Nat.le_refl _) ?_
  refine sp_X6_arrange (by first | assumption | exact hz6 | omega) (by first | assumption | exact hz4 | omega) (by first | assumption | exact hgb | omega) ?_ ?_
  · skip
    intro q1
    refine pw_iret r_11_order_7 rfl (Nat.le_refl _) ⟨rfl, ?_⟩
    exact h1 q1
  · skip
    intro q1 q2 T B O q3
    refine pw_iret r_11_order_7 rfl (Nat.le_refl _) ⟨rfl, ?_⟩
    exact h2 q1 q2 T B O q3

def LOF (w : Int → Int) (T : Int) (f g : Int → Int) : Prop := ∀ p, 0 ≤ p → p ≤ T → f p = plK w p - ps (plX w p) ∧ g p = rs (plX w p)
def LOI (w : Int → Int) (j t : Int) (f g : Int → Int) : Prop := plK w t = j ∧ (∀ p, 0 ≤ p → p < t → plX w p = 0 → plK w p < j) ∧ (∀ p, 0 ≤ p → p ≤ t → (0 ≤ plK w p ∧ plK w p ≤ j) ∧ 0 ≤ plX w p ∧ plX w p ≤ 8) ∧ LOF w t f g
theorem ps_or {x : Int} (h : 0 ≤ x) : (x = 0 ∧ ps x = 0) ∨ (0 < x ∧ ps x = 1) := by
  unfold ps
  by_cases e : 0 < x
  · rw [if_pos e]; exact Or.inr ⟨e, rfl⟩
  · rw [if_neg e]; exact Or.inl ⟨by omega, rfl⟩
theorem rs_or {x : Int} : (x = 0 ∧ rs x = 1) ∨ (x ≠ 0 ∧ rs x = 0) := by
  unfold rs
  by_cases e : x = 0
  · rw [if_pos e]; exact Or.inl ⟨e, rfl⟩
  · rw [if_neg e]; exact Or.inr ⟨e, rfl⟩
section LO
variable {w f g : Int → Int} {j t n : Int}
theorem lo_0 (hf : f 0 = 0) (hg : g 0 = 1) : LOI w 0 0 f g ∧ plX w 0 = 0 := by
  refine ⟨⟨pl_0.1, fun p a b => absurd b (by omega), fun p a b => ?_, fun p a b => ?_⟩, pl_0.2⟩
  · have e : p = 0 := by omega
    rw [e, pl_0.1, pl_0.2]; decide
  · have e : p = 0 := by omega
    rw [e, pl_0.1, pl_0.2, hf, hg]; decide
theorem lo_s {j1 x1 v u : Int} (hL : LOI w j t f g) (ht : 0 ≤ t) (hk : plK w (t + 1) = j1) (hx : plX w (t + 1) = x1) (hx2 : 0 ≤ x1 ∧ x1 ≤ 8) (h0 : 0 ≤ j) (hj : j ≤ j1) (hj2 : plX w t = 0 → j < j1) (hv : v = j1 - ps x1) (hu : u = rs x1) : LOI w j1 (t + 1) (upA f (t + 1) v) (upA g (t + 1) u) := by
  refine ⟨hk, fun p a b c => ?_, fun p a b => ?_, fun p a b => ?_⟩
  · by_cases e : p = t
    · rw [e] at c ⊢
      rw [hL.1]; exact hj2 c
    · have := hL.2.1 p a (by omega) c
      omega
  · by_cases e : p = t + 1
    · rw [e, hk, hx]
      exact ⟨⟨by omega, Int.le_refl _⟩, hx2⟩
    · have := hL.2.2.1 p a (by omega)
      exact ⟨⟨this.1.1, by omega⟩, this.2⟩
  · by_cases e : p = t + 1
    · rw [e, upA_same, upA_same, hk, hx]
      exact ⟨hv, hu⟩
    · rw [upA_ne e, upA_ne e]
      exact hL.2.2.2 p a (by omega)
theorem lo_end (hL : LOI w n t f g) (hx : plX w t = 0) (ht : 0 ≤ t ∧ t ≤ 90) : RWy n w t := ⟨ht, ⟨hL.1, hx⟩, hL.2.1, hL.2.2.1⟩
theorem lo_go {k m v u : Int} (hL : (m = 1 ∧ LOI w k t f g ∧ plX w t = 0) ∨ (2 ≤ m ∧ LOI w (k + 1) t f g ∧ plX w t = w k - m + 1)) (ht : 0 ≤ t) (hk : 0 ≤ k) (hm : 1 ≤ m ∧ m ≤ w k) (hw : w k ≤ 9) (hv : v = k + 1 - ps (w k - m)) (hu : u = rs (w k - m)) : LOI w (k + 1) (t + 1) (upA f (t + 1) v) (upA g (t + 1) u) ∧ plX w (t + 1) = w k - (m + 1) + 1 := by
  rcases hL with ⟨h1, h2, h3⟩ | ⟨h1, h2, h3⟩
  · have p := pl_r (w := w) ht h3
    have e := h2.1
    rw [e] at p
    exact ⟨lo_s h2 ht p.1 (show plX w (t + 1) = w k - m by omega) (by omega) hk (by omega) (fun _ => by omega) hv hu, by omega⟩
  · have p := pl_w (w := w) ht (by omega)
    have e := h2.1
    rw [e] at p
    exact ⟨lo_s h2 ht p.1 (show plX w (t + 1) = w k - m by omega) (by omega) (by omega) (by omega) (fun z => by omega) hv hu, by omega⟩
end LO
def tvF (f : Int → Int) (x y : Int) : Int := f (x * 91 + y)
def belP (wa wb : Int → Int) (TA TB h : Int) (V : Int → Int → Int) (a b : Int) : Prop := ∀ x y, 0 ≤ x → x ≤ TA → 0 ≤ y → y ≤ TB → (a < x ∨ (x = a ∧ b < y)) → belE wa wb TA TB h V x y ∧ belL TA TB V x y
section BP
variable {wa wb : Int → Int} {TA TB h : Int} {V : Int → Int → Int} {a b : Int} {f : Int → Int}
theorem bp_0 : belP wa wb TA TB h V TA TB := fun x y _ x1 _ y1 z => by omega
theorem bp_row (hP : belP wa wb TA TB h V a (-1)) : belP wa wb TA TB h V (a + (-1)) TB := fun x y x0 x1 y0 y1 z => hP x y x0 x1 y0 y1 (by omega)
theorem bp_all (hP : belP wa wb TA TB h V (-1) TB) : BEL wa wb TA TB h V := fun x y x0 x1 y0 y1 => hP x y x0 x1 y0 y1 (by omega)
theorem vB_in {sa sb : Int} (hP : belP wa wb TA TB h V a b) (ha : 0 ≤ a) (hb : 0 ≤ b) (hs : 0 ≤ sa ∧ 0 ≤ sb) (h1 : 1 ≤ sa + sb) (hT : TA ≤ 90 ∧ TB ≤ 90) : 0 ≤ vB wa wb TA TB h V a b sa sb ∧ vB wa wb TA TB h V a b sa sb ≤ 1000000000 := by
  have := vB_L (wa := wa) (wb := wb) (h := h) (V := V) (sa := sa) (sb := sb) ha hb hs (fun x y x0 x1 y0 y1 e1 e2 => (hP x y x0 x1 y0 y1 (by omega)).2)
  omega
theorem bel_put {v : Int} (hP : belP wa wb TA TB h (tvF f) a b) (ha : 0 ≤ a ∧ a ≤ TA) (hb : 0 ≤ b ∧ b ≤ TB) (hT : TA ≤ 90 ∧ TB ≤ 90) (hv : (a = TA ∧ b = TB ∧ v = 0) ∨ (¬ (a = TA ∧ b = TB) ∧ v = min 1000000000 (1 + min (vB wa wb TA TB h (tvF f) a b 1 1) (min (vB wa wb TA TB h (tvF f) a b 1 0) (vB wa wb TA TB h (tvF f) a b 0 1))))) : belP wa wb TA TB h (tvF (upA f (a * 91 + b) v)) a (b + (-1)) := by
  have hag : ∀ x y, 0 ≤ x → x ≤ TA → 0 ≤ y → y ≤ TB → (a < x ∨ (x = a ∧ b < y)) → tvF (upA f (a * 91 + b) v) x y = tvF f x y := fun x y x0 x1 y0 y1 z => upA_ne (by omega)
  have hvg : ∀ x y sa sb, 0 ≤ x → 0 ≤ y → 0 ≤ sa → 0 ≤ sb → (a < x + sa ∨ (x + sa = a ∧ b < y + sb)) → vB wa wb TA TB h (tvF (upA f (a * 91 + b) v)) x y sa sb = vB wa wb TA TB h (tvF f) x y sa sb := fun x y sa sb x0 y0 s0 s1 z => vB_congr (fun e => hag _ _ (by omega) e.2.2.1 (by omega) e.2.2.2.1 z)
  intro x y x0 x1 y0 y1 z
  by_cases e : x = a ∧ y = b
  · rw [e.1, e.2]
    have e0 : tvF (upA f (a * 91 + b) v) a b = v := upA_same _ _ _
    have b11 := vB_L (wa := wa) (wb := wb) (h := h) (V := tvF f) (sa := 1) (sb := 1) ha.1 hb.1 (by decide) (fun x y x0 x1 y0 y1 e1 e2 => (hP x y x0 x1 y0 y1 (by omega)).2)
    have b10 := vB_L (wa := wa) (wb := wb) (h := h) (V := tvF f) (sa := 1) (sb := 0) ha.1 hb.1 (by decide) (fun x y x0 x1 y0 y1 e1 e2 => (hP x y x0 x1 y0 y1 (by omega)).2)
    have b01 := vB_L (wa := wa) (wb := wb) (h := h) (V := tvF f) (sa := 0) (sb := 1) ha.1 hb.1 (by decide) (fun x y x0 x1 y0 y1 e1 e2 => (hP x y x0 x1 y0 y1 (by omega)).2)
    unfold belE belL
    rw [e0, hvg a b 1 1 ha.1 hb.1 (by decide) (by decide) (by omega), hvg a b 1 0 ha.1 hb.1 (by decide) (by decide) (by omega), hvg a b 0 1 ha.1 hb.1 (by decide) (by decide) (by omega)]
    exact ⟨hv, by omega⟩
  · have za : a < x ∨ (x = a ∧ b < y) := by omega
    have ho := hP x y x0 x1 y0 y1 za
    unfold belE belL at ho ⊢
    rw [hag x y x0 x1 y0 y1 za, hvg x y 1 1 x0 y0 (by decide) (by decide) (by omega), hvg x y 1 0 x0 y0 (by decide) (by decide) (by omega), hvg x y 0 1 x0 y0 (by decide) (by decide) (by omega)]
    exact ho
theorem vw_of {o0 o1 r0 r1 tb : Int → Int} {sa sb : Int} (hA : LOF wa TA o0 r0) (hB : LOF wb TB o1 r1) (ha : 0 ≤ a ∧ a ≤ TA) (hb : 0 ≤ b ∧ b ≤ TB) (hs : 0 ≤ sa ∧ 0 ≤ sb) (ht : okB wa wb TA TB h a b sa sb → tb ((a + sa) % 2 * 91 + (b + sb)) = V (a + sa) (b + sb)) :
    (((sa = 0 → r0 a ≠ 0) ∧ (sb = 0 → r1 b ≠ 0) ∧ a + sa ≤ TA ∧ b + sb ≤ TB ∧ -h ≤ o0 (a + sa) - o1 (b + sb) ∧ o0 (a + sa) - o1 (b + sb) ≤ h) ∧ vB wa wb TA TB h V a b sa sb = tb ((a + sa) % 2 * 91 + (b + sb))) ∨ (¬ ((sa = 0 → r0 a ≠ 0) ∧ (sb = 0 → r1 b ≠ 0) ∧ a + sa ≤ TA ∧ b + sb ≤ TB ∧ -h ≤ o0 (a + sa) - o1 (b + sb) ∧ o0 (a + sa) - o1 (b + sb) ≤ h) ∧ vB wa wb TA TB h V a b sa sb = 1000000000) := by
  have hi : ((sa = 0 → r0 a ≠ 0) ∧ (sb = 0 → r1 b ≠ 0) ∧ a + sa ≤ TA ∧ b + sb ≤ TB ∧ -h ≤ o0 (a + sa) - o1 (b + sb) ∧ o0 (a + sa) - o1 (b + sb) ≤ h) ↔ okB wa wb TA TB h a b sa sb := by
    have q0 : r0 a ≠ 0 ↔ plX wa a = 0 := by
      rw [(hA a ha.1 ha.2).2]
      have := rs_or (x := plX wa a)
      omega
    have q1 : r1 b ≠ 0 ↔ plX wb b = 0 := by
      rw [(hB b hb.1 hb.2).2]
      have := rs_or (x := plX wb b)
      omega
    unfold okB
    rw [q0, q1]
    constructor
    · intro z
      have u0 := (hA (a + sa) (by omega) z.2.2.1).1
      have u1 := (hB (b + sb) (by omega) z.2.2.2.1).1
      refine ⟨z.1, z.2.1, z.2.2.1, z.2.2.2.1, ?_⟩
      have z5 := z.2.2.2.2
      omega
    · intro z
      have u0 := (hA (a + sa) (by omega) z.2.2.1).1
      have u1 := (hB (b + sb) (by omega) z.2.2.2.1).1
      refine ⟨z.1, z.2.1, z.2.2.1, z.2.2.2.1, ?_⟩
      have z5 := z.2.2.2.2
      omega
  by_cases e : okB wa wb TA TB h a b sa sb
  · exact Or.inl ⟨hi.mpr e, by rw [vB_t e]; exact (ht e).symm⟩
  · exact Or.inr ⟨fun z => e (hi.mp z), vB_f e⟩
theorem pt_n {m : Int} (hm : 0 ≤ m) (h1 : a = (ptI wa wb TA TB h V m).1) (h2 : b = (ptI wa wb TA TB h V m).2) : (ptI wa wb TA TB h V (m + 1)).1 = a + pA (pk wa wb TA TB h V a b) ∧ (ptI wa wb TA TB h V (m + 1)).2 = b + pB (pk wa wb TA TB h V a b) := by
  rw [pt_s hm, h1, h2]
  exact ⟨rfl, rfl⟩
theorem pt_at {m : Int} (hB : BEL wa wb TA TB h V) (hT : (0 ≤ TA ∧ TA ≤ 90) ∧ 0 ≤ TB ∧ TB ≤ 90) (hf : V 0 0 ≠ 1000000000) (hm : 0 ≤ m ∧ m ≤ V 0 0) (h1 : a = (ptI wa wb TA TB h V m).1) (h2 : b = (ptI wa wb TA TB h V m).2) : (0 ≤ a ∧ a ≤ TA) ∧ (0 ≤ b ∧ b ≤ TB) ∧ V a b = V 0 0 - m := by
  have := pt_in hB hT hf m.toNat (by omega)
  rw [Int.toNat_of_nonneg hm.1, ← h1, ← h2] at this
  exact this
theorem mul01 {x u v : Int} (hx : x = 0 ∨ x = 1) (hu : u = 0 ∨ u = 1) : 0 ≤ x * u ∧ x * u ≤ 1 := by
  rcases hx with z | z <;> rcases hu with y | y <;> rw [z, y] <;> decide
theorem mul02 {x u : Int} (hx : x = 0 ∨ x = 1) (hu : u = 0 ∨ u = 1) : 0 ≤ 2 * x * u ∧ 2 * x * u ≤ 2 := by
  rcases hx with z | z <;> rcases hu with y | y <;> rw [z, y] <;> decide
theorem pA_01 {u : Int} : pA u = 0 ∨ pA u = 1 := by unfold pA; split <;> omega
theorem pB_01 {u : Int} : pB u = 0 ∨ pB u = 1 := by unfold pB; split <;> omega
theorem pA_bit {u : Int} (hu : u = 3 ∨ u = 1 ∨ u = 2) : pAnd u 1 = pA u ∧ pShr u 1 = pB u := by
  rcases hu with z | z | z <;> rw [z] <;> decide +kernel
theorem bel_0 (hB : BEL wa wb TA TB h V) (hT : (0 ≤ TA ∧ TA ≤ 90) ∧ 0 ≤ TB ∧ TB ≤ 90) : V 0 0 = 1000000000 ∨ (0 ≤ V 0 0 ∧ V 0 0 ≤ 180) := by
  have h1 := (hB 0 0 (Int.le_refl 0) hT.1.1 (Int.le_refl 0) hT.2.1).2
  unfold belL at h1
  omega
theorem ne_end (hB : BEL wa wb TA TB h V) (ha : 0 ≤ a ∧ a ≤ TA) (hb : 0 ≤ b ∧ b ≤ TB) (hv : V a b ≠ 0) : ¬ (a = TA ∧ b = TB) := fun z => by
  rcases (hB a b ha.1 ha.2 hb.1 hb.2).1 with y | y
  · exact hv y.2.2
  · exact y.1 z
theorem pk_3 : pk wa wb TA TB h V a b = 3 ∨ pk wa wb TA TB h V a b = 1 ∨ pk wa wb TA TB h V a b = 2 := by
  have := pk_or (wa := wa) (wb := wb) (TA := TA) (TB := TB) (h := h) (V := V) (a := a) (b := b)
  omega
end BP
def wkF (i : Int) : Int := if i = 0 then 3 else i
def dcS (v : Int → Int) (i : Int) (s : Int × Int) : Int × Int := if 1 + v (wkF i) < s.1 then (1 + v (wkF i), wkF i) else s
def dcI (v : Int → Int) (e i : Int) : Int × Int := iterI (dcS v) i (e, 0)
def eV (TA TB a b : Int) : Int := if a = TA ∧ b = TB then 0 else 1000000000
noncomputable def vU (wa wb : Int → Int) (TA TB h : Int) (V : Int → Int → Int) (a b u : Int) : Int := vB wa wb TA TB h V a b (pA u) (pB u)
section DC
variable {v : Int → Int} {e i f u x : Int}
theorem dc_0 : dcI v e 0 = (e, 0) := rfl
theorem dc_t (hi : 0 ≤ i) (hd : dcI v e i = (f, u)) (hx : x = wkF i) (h : 1 + v x < f) : dcI v e (i + 1) = (1 + v x, x) := by
  have e1 : dcI v e (i + 1) = dcS v i (dcI v e i) := iter_s _ hi _
  rw [e1, hd]
  rw [hx] at h ⊢
  exact if_pos h
theorem dc_f (hi : 0 ≤ i) (hd : dcI v e i = (f, u)) (hx : x = wkF i) (h : ¬ 1 + v x < f) : dcI v e (i + 1) = (f, u) := by
  have e1 : dcI v e (i + 1) = dcS v i (dcI v e i) := iter_s _ hi _
  rw [e1, hd]
  rw [hx] at h
  exact if_neg h
theorem wk_3 (hi : 0 ≤ i) (h : i < 3) (hx : x = wkF i) : x = 3 ∨ x = 1 ∨ x = 2 := by
  rw [hx]
  unfold wkF
  split <;> omega
theorem dc_n (hi : 0 ≤ i) (hx : x = wkF i) (hd : dcI v e i = (f, u)) : (1 + v x < f ∧ dcI v e (i + 1) = (1 + v x, x)) ∨ (¬ 1 + v x < f ∧ dcI v e (i + 1) = (f, u)) := by
  by_cases h : 1 + v x < f
  · exact Or.inl ⟨h, dc_t hi hd hx h⟩
  · exact Or.inr ⟨h, dc_f hi hd hx h⟩
theorem dc_val (h3 : 0 ≤ v 3 ∧ v 3 ≤ 1000000000) (h1 : 0 ≤ v 1 ∧ v 1 ≤ 1000000000) (h2 : 0 ≤ v 2 ∧ v 2 ≤ 1000000000) (hd : dcI v e 3 = (f, u)) : (e = 0 → f = 0 ∧ u = 0) ∧ (e = 1000000000 → f = min 1000000000 (1 + min (v 3) (min (v 1) (v 2))) ∧ (0 ≤ u ∧ u ≤ 3) ∧ (f = 1000000000 ∨ (u = 3 ∧ v 3 = f - 1) ∨ (u = 1 ∧ v 3 ≠ f - 1 ∧ v 1 = f - 1) ∨ (u = 2 ∧ v 3 ≠ f - 1 ∧ v 1 ≠ f - 1))) := by
  have key : ∀ f3 u3, dcI v e 3 = (f3, u3) → f = f3 ∧ u = u3 := fun f3 u3 q => by
    rw [hd] at q
    cases q
    exact ⟨rfl, rfl⟩
  rcases dc_n (i := 0) (x := 3) (v := v) (e := e) (by decide) (by decide) dc_0 with ⟨g0, q0⟩ | ⟨g0, q0⟩
  all_goals rcases dc_n (i := 1) (x := 1) (by decide) (by decide) q0 with ⟨g1, q1⟩ | ⟨g1, q1⟩
  all_goals rcases dc_n (i := 2) (x := 2) (by decide) (by decide) q1 with ⟨g2, q2⟩ | ⟨g2, q2⟩
  all_goals
    have hk := key _ _ q2
    clear hd q0 q1 q2 key
    omega
theorem pAB (h : u = 3 ∨ u = 1 ∨ u = 2) : (u = 3 ∧ pA u = 1 ∧ pB u = 1) ∨ (u = 1 ∧ pA u = 1 ∧ pB u = 0) ∨ (u = 2 ∧ pA u = 0 ∧ pB u = 1) := by
  rcases h with z | z | z <;> rw [z] <;> decide
theorem pAB_0 (h : u = 3 ∨ u = 1 ∨ u = 2) : 0 ≤ pA u ∧ 0 ≤ pB u := by
  have := pAB h
  omega
end DC
theorem eV_or {TA TB a b : Int} : (eV TA TB a b = 0 ∧ a = TA ∧ b = TB) ∨ (eV TA TB a b = 1000000000 ∧ ¬ (a = TA ∧ b = TB)) := by
  unfold eV
  by_cases h : a = TA ∧ b = TB
  · rw [if_pos h]; exact Or.inl ⟨rfl, h⟩
  · rw [if_neg h]; exact Or.inr ⟨rfl, h⟩
def LRW (TA TB : Int) (tb lr : Int → Int) (a b : Int) : Prop := ∀ x y, 0 ≤ x → x ≤ TA → 0 ≤ y → y ≤ TB → ((x = a ∧ b < y) ∨ x = a + 1) → lr (x % 2 * 91 + y) = tb (x * 91 + y)
def WKP (wa wb : Int → Int) (TA TB h : Int) (tb wk : Int → Int) (a b : Int) : Prop := ∀ x y, 0 ≤ x → x ≤ TA → 0 ≤ y → y ≤ TB → (a < x ∨ (x = a ∧ b < y)) → ¬ (x = TA ∧ y = TB) → tvF tb x y ≠ 1000000000 → wgI (wk ((x * 91 + y) / 16)) ((x * 91 + y) % 16) = pk wa wb TA TB h (tvF tb) x y
def WKA (wa wb : Int → Int) (TA TB h : Int) (V : Int → Int → Int) (wk : Int → Int) : Prop := ∀ x y, 0 ≤ x → x ≤ TA → 0 ≤ y → y ≤ TB → ¬ (x = TA ∧ y = TB) → V x y ≠ 1000000000 → wgI (wk ((x * 91 + y) / 16)) ((x * 91 + y) % 16) = pk wa wb TA TB h V x y
section DP
variable {wa wb tb lr wk : Int → Int} {TA TB h a b u : Int}
theorem lr_0 : LRW TA TB tb lr TA TB := fun x y _ x1 _ y1 z => by exfalso; omega
theorem lr_row (hL : LRW TA TB tb lr a b) (e : b = -1) : LRW TA TB tb lr (a + (-1)) TB := fun x y x0 x1 y0 y1 z => hL x y x0 x1 y0 y1 (by omega)
theorem lr_put {v : Int} (hL : LRW TA TB tb lr a b) (ha : 0 ≤ a ∧ a ≤ TA) (hb : 0 ≤ b ∧ b ≤ TB) (hT : TA ≤ 90 ∧ TB ≤ 90) : LRW TA TB (upA tb (a * 91 + b) v) (upA lr (a % 2 * 91 + b) v) a (b + (-1)) := fun x y x0 x1 y0 y1 z => by
  by_cases e : x = a ∧ y = b
  · rw [e.1, e.2, upA_same, upA_same]
  · rw [upA_ne (show x % 2 * 91 + y ≠ a % 2 * 91 + b by omega), upA_ne (show x * 91 + y ≠ a * 91 + b by omega)]
    exact hL x y x0 x1 y0 y1 (by omega)
theorem lr_at (hL : LRW TA TB tb lr a b) (ha : 0 ≤ a ∧ a ≤ TA) (hb : 0 ≤ b ∧ b ≤ TB) (hu : u = 3 ∨ u = 1 ∨ u = 2) (z : okB wa wb TA TB h a b (pA u) (pB u)) : lr ((a + pA u) % 2 * 91 + (b + pB u)) = tvF tb (a + pA u) (b + pB u) := by
  have hp := pAB hu
  exact hL _ _ (by omega) z.2.2.1 (by omega) z.2.2.2.1 (by omega)
theorem vU_in (hP : belP wa wb TA TB h (tvF tb) a b) (ha : 0 ≤ a ∧ a ≤ TA) (hb : 0 ≤ b ∧ b ≤ TB) (hT : TA ≤ 90 ∧ TB ≤ 90) : ∀ u, (u = 3 ∨ u = 1 ∨ u = 2) → 0 ≤ vU wa wb TA TB h (tvF tb) a b u ∧ vU wa wb TA TB h (tvF tb) a b u ≤ 1000000000 := fun u hu => by
  have hp := pAB hu
  exact vB_in hP ha.1 hb.1 (by omega) (by omega) hT
theorem wk_0 : WKP wa wb TA TB h tb wk TA TB := fun x y _ x1 _ y1 z => by exfalso; omega
theorem wk_row (hW : WKP wa wb TA TB h tb wk a b) (e : b = -1) : WKP wa wb TA TB h tb wk (a + (-1)) TB := fun x y x0 x1 y0 y1 z => hW x y x0 x1 y0 y1 (by omega)
theorem wk_all (hW : WKP wa wb TA TB h tb wk (-1) TB) : WKA wa wb TA TB h (tvF tb) wk := fun x y x0 x1 y0 y1 => hW x y x0 x1 y0 y1 (by omega)
theorem wk_put {v : Int} (hW : WKP wa wb TA TB h tb wk a b) (ha : 0 ≤ a ∧ a ≤ TA) (hb : 0 ≤ b ∧ b ≤ TB) (hT : TA ≤ 90 ∧ TB ≤ 90) (hu : 0 ≤ u ∧ u ≤ 3)
    (hk : ¬ (a = TA ∧ b = TB) → v ≠ 1000000000 → (u = 3 ∧ vB wa wb TA TB h (tvF tb) a b 1 1 = v - 1) ∨ (u = 1 ∧ vB wa wb TA TB h (tvF tb) a b 1 1 ≠ v - 1 ∧ vB wa wb TA TB h (tvF tb) a b 1 0 = v - 1) ∨ (u = 2 ∧ vB wa wb TA TB h (tvF tb) a b 1 1 ≠ v - 1 ∧ vB wa wb TA TB h (tvF tb) a b 1 0 ≠ v - 1)) :
    WKP wa wb TA TB h (upA tb (a * 91 + b) v) (upA wk ((a * 91 + b) / 16) (wpI (wk ((a * 91 + b) / 16)) ((a * 91 + b) % 16) u)) a (b + (-1)) := by
  have hag : ∀ x y, 0 ≤ x → x ≤ TA → 0 ≤ y → y ≤ TB → (a < x ∨ (x = a ∧ b < y)) → tvF (upA tb (a * 91 + b) v) x y = tvF tb x y := fun x y x0 x1 y0 y1 z => upA_ne (by omega)
  have hvg : ∀ x y sa sb, 0 ≤ x → 0 ≤ y → 0 ≤ sa → 0 ≤ sb → (a < x + sa ∨ (x + sa = a ∧ b < y + sb)) → vB wa wb TA TB h (tvF (upA tb (a * 91 + b) v)) x y sa sb = vB wa wb TA TB h (tvF tb) x y sa sb := fun x y sa sb x0 y0 s0 s1 z => vB_congr (fun e => hag _ _ (by omega) e.2.2.1 (by omega) e.2.2.2.1 z)
  intro x y x0 x1 y0 y1 z hn hf
  by_cases e : x = a ∧ y = b
  · rw [e.1, e.2] at hn hf ⊢
    have e0 : tvF (upA tb (a * 91 + b) v) a b = v := upA_same _ _ _
    rw [e0] at hf
    have h1 := pk_or (wa := wa) (wb := wb) (TA := TA) (TB := TB) (h := h) (V := tvF (upA tb (a * 91 + b) v)) (a := a) (b := b)
    rw [e0, hvg a b 1 1 ha.1 hb.1 (by decide) (by decide) (by omega), hvg a b 1 0 ha.1 hb.1 (by decide) (by decide) (by omega)] at h1
    have h2 := hk hn hf
    rw [upA_same, wg_wp (by omega) (by omega) hu, if_pos rfl]
    clear hag hvg hW hk
    omega
  · have za : a < x ∨ (x = a ∧ b < y) := by omega
    rw [hag x y x0 x1 y0 y1 za] at hf
    have ho := hW x y x0 x1 y0 y1 za hn hf
    have hpk : pk wa wb TA TB h (tvF (upA tb (a * 91 + b) v)) x y = pk wa wb TA TB h (tvF tb) x y := by
      unfold pk
      rw [hag x y x0 x1 y0 y1 za, hvg x y 1 1 x0 y0 (by decide) (by decide) (by omega), hvg x y 1 0 x0 y0 (by decide) (by decide) (by omega)]
    rw [hpk]
    by_cases q : (x * 91 + y) / 16 = (a * 91 + b) / 16
    · rw [q] at ho ⊢
      rw [upA_same, wg_wp (by omega) (by omega) hu, if_neg (by omega)]
      exact ho
    · rw [upA_ne q]
      exact ho
theorem dec_put (hP : belP wa wb TA TB h (tvF tb) a b) (hL : LRW TA TB tb lr a b) (hW : WKP wa wb TA TB h tb wk a b) (ha : 0 ≤ a ∧ a ≤ TA) (hb : 0 ≤ b ∧ b ≤ TB) (hT : TA ≤ 90 ∧ TB ≤ 90) {v : Int} (hd : dcI (vU wa wb TA TB h (tvF tb) a b) (eV TA TB a b) 3 = (v, u)) :
    belP wa wb TA TB h (tvF (upA tb (a * 91 + b) v)) a (b + (-1)) ∧ LRW TA TB (upA tb (a * 91 + b) v) (upA lr (a % 2 * 91 + b) v) a (b + (-1)) ∧ WKP wa wb TA TB h (upA tb (a * 91 + b) v) (upA wk ((a * 91 + b) / 16) (wpI (wk ((a * 91 + b) / 16)) ((a * 91 + b) % 16) u)) a (b + (-1)) := by
  have hi := vU_in hP ha hb hT
  have hv := dc_val (hi 3 (by decide)) (hi 1 (by decide)) (hi 2 (by decide)) hd
  have e3 : vU wa wb TA TB h (tvF tb) a b 3 = vB wa wb TA TB h (tvF tb) a b 1 1 := rfl
  have e1 : vU wa wb TA TB h (tvF tb) a b 1 = vB wa wb TA TB h (tvF tb) a b 1 0 := rfl
  have e2 : vU wa wb TA TB h (tvF tb) a b 2 = vB wa wb TA TB h (tvF tb) a b 0 1 := rfl
  rw [e3, e1, e2] at hv
  rcases eV_or (TA := TA) (TB := TB) (a := a) (b := b) with ⟨z, z1, z2⟩ | ⟨z, z1⟩
  · have g := hv.1 z
    exact ⟨bel_put hP ha hb hT (Or.inl ⟨z1, z2, g.1⟩), lr_put hL ha hb hT, wk_put hW ha hb hT (by omega) (fun q => absurd ⟨z1, z2⟩ q)⟩
  · have g := hv.2 z
    exact ⟨bel_put hP ha hb hT (Or.inr ⟨z1, g.1⟩), lr_put hL ha hb hT, wk_put hW ha hb hT g.2.1 (fun _ q => g.2.2.resolve_left q)⟩
end DP

theorem wd_f0_32 : Cond.fieldLink "NameRolls$Bridge" 32 "NameRolls$Bridge" "walks" "[I" ∈ UW := UW2_at 182 (by decide +kernel) rfl
theorem wd_m0_58 : Cond.methodLink "NameRolls$Bridge" 58 M_X0_leastAfter.1 ∈ UW := UW6_at 106 (by decide +kernel) rfl
theorem wd_s0_leastAfter : Cond.selects M_X0_leastAfter.1.cls M_X0_leastAfter.1 M_X0_leastAfter.1 ∈ UW := UWp_at 48 (by decide +kernel) rfl
theorem wd_m0_68 : Cond.methodLink "NameRolls$Bridge" 68 M_X0_walkingFrom.1 ∈ UW := UW6_at 115 (by decide +kernel) rfl
theorem wd_s0_walkingFrom : Cond.selects M_X0_walkingFrom.1.cls M_X0_walkingFrom.1 M_X0_walkingFrom.1 ∈ UW := UWp_at 50 (by decide +kernel) rfl
theorem r_0_walkingFrom_0 : RL M_X0_walkingFrom 0 1 1 := Or.inl ⟨1, by decide +kernel, rfl, rfl⟩
theorem r_0_walkingFrom_1 : RC M_X0_walkingFrom 1 91 3 := ⟨⟨by decide, by decide⟩, Or.inr (Or.inl ⟨by decide +kernel, by decide, rfl⟩)⟩
theorem r_0_walkingFrom_3 : RW M_X0_walkingFrom 3 .imul 4 1 := ⟨by decide +kernel, rfl⟩
theorem r_0_walkingFrom_4 : RL M_X0_walkingFrom 4 2 5 := Or.inl ⟨2, by decide +kernel, rfl, rfl⟩
theorem r_0_walkingFrom_5 : RW M_X0_walkingFrom 5 .iadd 6 1 := ⟨by decide +kernel, rfl⟩
theorem r_0_walkingFrom_6 : RS M_X0_walkingFrom 6 3 7 := ⟨by decide, Or.inl ⟨3, by decide +kernel, rfl, rfl⟩⟩
theorem r_0_walkingFrom_7 : RA M_X0_walkingFrom 7 0 8 := Or.inl ⟨0, by decide +kernel, rfl, rfl⟩
theorem r_0_walkingFrom_8 : RG M_X0_walkingFrom 8 0 6 11 := ⟨32, _, by decide +kernel, rfl, by decide, wd_f0_32, rfl, rfl⟩
theorem r_0_walkingFrom_11 : RL M_X0_walkingFrom 11 3 12 := Or.inl ⟨3, by decide +kernel, rfl, rfl⟩
theorem r_0_walkingFrom_12 : RC M_X0_walkingFrom 12 16 14 := ⟨⟨by decide, by decide⟩, Or.inr (Or.inl ⟨by decide +kernel, by decide, rfl⟩)⟩
theorem r_0_walkingFrom_14 : RW M_X0_walkingFrom 14 .idiv 15 1 := ⟨by decide +kernel, rfl⟩
theorem r_0_walkingFrom_15 : RW M_X0_walkingFrom 15 .iaload 16 1 := ⟨by decide +kernel, rfl⟩
theorem r_0_walkingFrom_16 : RC M_X0_walkingFrom 16 2 17 := ⟨⟨by decide, by decide⟩, Or.inl ⟨by decide +kernel, rfl⟩⟩
theorem r_0_walkingFrom_17 : RL M_X0_walkingFrom 17 3 18 := Or.inl ⟨3, by decide +kernel, rfl, rfl⟩
theorem r_0_walkingFrom_18 : RC M_X0_walkingFrom 18 16 20 := ⟨⟨by decide, by decide⟩, Or.inr (Or.inl ⟨by decide +kernel, by decide, rfl⟩)⟩
theorem r_0_walkingFrom_20 : RW M_X0_walkingFrom 20 .irem 21 1 := ⟨by decide +kernel, rfl⟩
theorem r_0_walkingFrom_21 : RW M_X0_walkingFrom 21 .imul 22 1 := ⟨by decide +kernel, rfl⟩
theorem r_0_walkingFrom_22 : RW M_X0_walkingFrom 22 .ishr 23 1 := ⟨by decide +kernel, rfl⟩
theorem r_0_walkingFrom_23 : RC M_X0_walkingFrom 23 3 24 := ⟨⟨by decide, by decide⟩, Or.inl ⟨by decide +kernel, rfl⟩⟩
theorem r_0_walkingFrom_24 : RW M_X0_walkingFrom 24 .iand 25 1 := ⟨by decide +kernel, rfl⟩
theorem r_0_walkingFrom_25 : RW M_X0_walkingFrom 25 .ireturn 26 1 := ⟨by decide +kernel, rfl⟩
theorem r_0_decide_26 : RS M_X0_decide 26 4 28 := ⟨by decide, Or.inr ⟨by decide +kernel, rfl⟩⟩
theorem r_0_decide_28 : RC M_X0_decide 28 0 29 := ⟨⟨by decide, by decide⟩, Or.inl ⟨by decide +kernel, rfl⟩⟩
theorem r_0_decide_29 : RS M_X0_decide 29 5 31 := ⟨by decide, Or.inr ⟨by decide +kernel, rfl⟩⟩
theorem r_0_decide_31 : RC M_X0_decide 31 0 32 := ⟨⟨by decide, by decide⟩, Or.inl ⟨by decide +kernel, rfl⟩⟩
theorem r_0_decide_32 : RS M_X0_decide 32 6 34 := ⟨by decide, Or.inr ⟨by decide +kernel, rfl⟩⟩
theorem r_0_decide_34 : RL M_X0_decide 34 6 36 := Or.inr ⟨by decide +kernel, rfl⟩
theorem r_0_decide_36 : RC M_X0_decide 36 3 37 := ⟨⟨by decide, by decide⟩, Or.inl ⟨by decide +kernel, rfl⟩⟩
theorem r_0_decide_37 : RB M_X0_decide 37 (.if_icmp .ge) 87 40 := ⟨50, by decide +kernel, rfl, rfl⟩
theorem r_0_decide_87 : RA M_X0_decide 87 0 88 := Or.inl ⟨0, by decide +kernel, rfl, rfl⟩
theorem r_0_decide_88 : RG M_X0_decide 88 0 5 91 := ⟨29, _, by decide +kernel, rfl, by decide, wd_f0_29, rfl, rfl⟩
theorem r_0_decide_91 : RL M_X0_decide 91 1 92 := Or.inl ⟨1, by decide +kernel, rfl, rfl⟩
theorem r_0_decide_92 : RC M_X0_decide 92 1 93 := ⟨⟨by decide, by decide⟩, Or.inl ⟨by decide +kernel, rfl⟩⟩
theorem r_0_decide_93 : RW M_X0_decide 93 .iand 94 1 := ⟨by decide +kernel, rfl⟩
theorem r_0_decide_94 : RC M_X0_decide 94 91 96 := ⟨⟨by decide, by decide⟩, Or.inr (Or.inl ⟨by decide +kernel, by decide, rfl⟩)⟩
theorem r_0_decide_96 : RW M_X0_decide 96 .imul 97 1 := ⟨by decide +kernel, rfl⟩
theorem r_0_decide_97 : RL M_X0_decide 97 2 98 := Or.inl ⟨2, by decide +kernel, rfl, rfl⟩
theorem r_0_decide_98 : RW M_X0_decide 98 .iadd 99 1 := ⟨by decide +kernel, rfl⟩
theorem r_0_decide_99 : RL M_X0_decide 99 4 101 := Or.inr ⟨by decide +kernel, rfl⟩
theorem r_0_decide_101 : RW M_X0_decide 101 .iastore 102 1 := ⟨by decide +kernel, rfl⟩
theorem r_0_decide_102 : RL M_X0_decide 102 1 103 := Or.inl ⟨1, by decide +kernel, rfl, rfl⟩
theorem r_0_decide_103 : RC M_X0_decide 103 91 105 := ⟨⟨by decide, by decide⟩, Or.inr (Or.inl ⟨by decide +kernel, by decide, rfl⟩)⟩
theorem r_0_decide_105 : RW M_X0_decide 105 .imul 106 1 := ⟨by decide +kernel, rfl⟩
theorem r_0_decide_106 : RL M_X0_decide 106 2 107 := Or.inl ⟨2, by decide +kernel, rfl, rfl⟩
theorem r_0_decide_107 : RW M_X0_decide 107 .iadd 108 1 := ⟨by decide +kernel, rfl⟩
theorem r_0_decide_108 : RS M_X0_decide 108 6 110 := ⟨by decide, Or.inr ⟨by decide +kernel, rfl⟩⟩
theorem r_0_decide_110 : RC M_X0_decide 110 2 111 := ⟨⟨by decide, by decide⟩, Or.inl ⟨by decide +kernel, rfl⟩⟩
theorem r_0_decide_111 : RL M_X0_decide 111 6 113 := Or.inr ⟨by decide +kernel, rfl⟩
theorem r_0_decide_113 : RC M_X0_decide 113 16 115 := ⟨⟨by decide, by decide⟩, Or.inr (Or.inl ⟨by decide +kernel, by decide, rfl⟩)⟩
theorem r_0_decide_115 : RW M_X0_decide 115 .irem 116 1 := ⟨by decide +kernel, rfl⟩
theorem r_0_decide_116 : RW M_X0_decide 116 .imul 117 1 := ⟨by decide +kernel, rfl⟩
theorem r_0_decide_117 : RS M_X0_decide 117 7 119 := ⟨by decide, Or.inr ⟨by decide +kernel, rfl⟩⟩
theorem r_0_decide_119 : RA M_X0_decide 119 0 120 := Or.inl ⟨0, by decide +kernel, rfl, rfl⟩
theorem r_0_decide_120 : RG M_X0_decide 120 0 6 123 := ⟨32, _, by decide +kernel, rfl, by decide, wd_f0_32, rfl, rfl⟩
theorem r_0_decide_123 : RL M_X0_decide 123 6 125 := Or.inr ⟨by decide +kernel, rfl⟩
theorem r_0_decide_125 : RC M_X0_decide 125 16 127 := ⟨⟨by decide, by decide⟩, Or.inr (Or.inl ⟨by decide +kernel, by decide, rfl⟩)⟩
theorem r_0_decide_127 : RW M_X0_decide 127 .idiv 128 1 := ⟨by decide +kernel, rfl⟩
theorem r_0_decide_128 : RA M_X0_decide 128 0 129 := Or.inl ⟨0, by decide +kernel, rfl, rfl⟩
theorem r_0_decide_129 : RG M_X0_decide 129 0 6 132 := ⟨32, _, by decide +kernel, rfl, by decide, wd_f0_32, rfl, rfl⟩
theorem r_0_decide_132 : RL M_X0_decide 132 6 134 := Or.inr ⟨by decide +kernel, rfl⟩
theorem r_0_decide_134 : RC M_X0_decide 134 16 136 := ⟨⟨by decide, by decide⟩, Or.inr (Or.inl ⟨by decide +kernel, by decide, rfl⟩)⟩
theorem r_0_decide_136 : RW M_X0_decide 136 .idiv 137 1 := ⟨by decide +kernel, rfl⟩
theorem r_0_decide_137 : RW M_X0_decide 137 .iaload 138 1 := ⟨by decide +kernel, rfl⟩
theorem r_0_decide_138 : RC M_X0_decide 138 3 139 := ⟨⟨by decide, by decide⟩, Or.inl ⟨by decide +kernel, rfl⟩⟩
theorem r_0_decide_139 : RL M_X0_decide 139 7 141 := Or.inr ⟨by decide +kernel, rfl⟩
theorem r_0_decide_141 : RW M_X0_decide 141 .ishl 142 1 := ⟨by decide +kernel, rfl⟩
theorem r_0_decide_142 : RC M_X0_decide 142 (-1) 143 := ⟨⟨by decide, by decide⟩, Or.inl ⟨by decide +kernel, rfl⟩⟩
theorem r_0_decide_143 : RW M_X0_decide 143 .ixor 144 1 := ⟨by decide +kernel, rfl⟩
theorem r_0_decide_144 : RW M_X0_decide 144 .iand 145 1 := ⟨by decide +kernel, rfl⟩
theorem r_0_decide_145 : RL M_X0_decide 145 5 147 := Or.inr ⟨by decide +kernel, rfl⟩
theorem r_0_decide_147 : RL M_X0_decide 147 7 149 := Or.inr ⟨by decide +kernel, rfl⟩
theorem r_0_decide_149 : RW M_X0_decide 149 .ishl 150 1 := ⟨by decide +kernel, rfl⟩
theorem r_0_decide_150 : RW M_X0_decide 150 .ior 151 1 := ⟨by decide +kernel, rfl⟩
theorem r_0_decide_151 : RW M_X0_decide 151 .iastore 152 1 := ⟨by decide +kernel, rfl⟩
theorem r_0_decide_152 : RW M_X0_decide 152 .return_ 153 1 := ⟨by decide +kernel, rfl⟩
theorem r_0_decide_51 : RS M_X0_decide 51 7 53 := ⟨by decide, Or.inr ⟨by decide +kernel, rfl⟩⟩
theorem r_0_decide_53 : RC M_X0_decide 53 1 54 := ⟨⟨by decide, by decide⟩, Or.inl ⟨by decide +kernel, rfl⟩⟩
theorem r_0_decide_54 : RA M_X0_decide 54 0 55 := Or.inl ⟨0, by decide +kernel, rfl, rfl⟩
theorem r_0_decide_55 : RL M_X0_decide 55 1 56 := Or.inl ⟨1, by decide +kernel, rfl, rfl⟩
theorem r_0_decide_56 : RL M_X0_decide 56 2 57 := Or.inl ⟨2, by decide +kernel, rfl, rfl⟩
theorem r_0_decide_57 : RL M_X0_decide 57 7 59 := Or.inr ⟨by decide +kernel, rfl⟩
theorem r_0_decide_59 : RL M_X0_decide 59 3 60 := Or.inl ⟨3, by decide +kernel, rfl, rfl⟩
theorem r_0_decide_60 : RKv M_X0_decide M_X0_leastAfter 60 4 0 63 := ⟨58, by decide +kernel, wd_m0_58, ok_M_X0_leastAfter, wd_s0_leastAfter, rfl⟩
theorem r_0_decide_63 : RW M_X0_decide 63 .iadd 64 1 := ⟨by decide +kernel, rfl⟩
theorem r_0_decide_64 : RS M_X0_decide 64 8 66 := ⟨by decide, Or.inr ⟨by decide +kernel, rfl⟩⟩
theorem r_0_decide_66 : RL M_X0_decide 66 8 68 := Or.inr ⟨by decide +kernel, rfl⟩
theorem r_0_decide_68 : RL M_X0_decide 68 4 70 := Or.inr ⟨by decide +kernel, rfl⟩
theorem r_0_decide_70 : RB M_X0_decide 70 (.if_icmp .ge) 81 73 := ⟨11, by decide +kernel, rfl, rfl⟩
theorem r_0_decide_81 : RI M_X0_decide 81 6 1 84 := ⟨by decide, by decide +kernel, rfl⟩
theorem r_0_decide_84 : RB M_X0_decide 84 .goto 34 87 := ⟨(-50), by decide +kernel, rfl, rfl⟩
theorem r_0_decide_73 : RL M_X0_decide 73 8 75 := Or.inr ⟨by decide +kernel, rfl⟩
theorem r_0_decide_75 : RS M_X0_decide 75 4 77 := ⟨by decide, Or.inr ⟨by decide +kernel, rfl⟩⟩
theorem r_0_decide_77 : RL M_X0_decide 77 7 79 := Or.inr ⟨by decide +kernel, rfl⟩
theorem r_0_decide_79 : RS M_X0_decide 79 5 81 := ⟨by decide, Or.inr ⟨by decide +kernel, rfl⟩⟩
theorem r_0_decide_40 : RL M_X0_decide 40 6 42 := Or.inr ⟨by decide +kernel, rfl⟩
theorem r_0_decide_42 : RB M_X0_decide 42 (.ifCond .ne) 49 45 := ⟨7, by decide +kernel, rfl, rfl⟩
theorem r_0_decide_49 : RL M_X0_decide 49 6 51 := Or.inr ⟨by decide +kernel, rfl⟩
theorem r_0_decide_45 : RC M_X0_decide 45 3 46 := ⟨⟨by decide, by decide⟩, Or.inl ⟨by decide +kernel, rfl⟩⟩
theorem r_0_decide_46 : RB M_X0_decide 46 .goto 51 49 := ⟨5, by decide +kernel, rfl, rfl⟩
theorem r_0_decide_0 : RL M_X0_decide 0 1 1 := Or.inl ⟨1, by decide +kernel, rfl, rfl⟩
theorem r_0_decide_1 : RA M_X0_decide 1 0 2 := Or.inl ⟨0, by decide +kernel, rfl, rfl⟩
theorem r_0_decide_2 : RG M_X0_decide 2 0 4 5 := ⟨26, _, by decide +kernel, rfl, by decide, wd_f0_26, rfl, rfl⟩
theorem r_0_decide_5 : RC M_X0_decide 5 0 6 := ⟨⟨by decide, by decide⟩, Or.inl ⟨by decide +kernel, rfl⟩⟩
theorem r_0_decide_6 : RW M_X0_decide 6 .iaload 7 1 := ⟨by decide +kernel, rfl⟩
theorem r_0_decide_7 : RB M_X0_decide 7 (.if_icmp .ne) 24 10 := ⟨17, by decide +kernel, rfl, rfl⟩
theorem r_0_decide_24 : RC M_X0_decide 24 1000000000 26 := ⟨⟨by decide, by decide⟩, Or.inr (Or.inr (Or.inr (Or.inl ⟨50, by decide +kernel, wd_c0_50, rfl⟩)))⟩
theorem r_0_decide_10 : RL M_X0_decide 10 2 11 := Or.inl ⟨2, by decide +kernel, rfl, rfl⟩
theorem r_0_decide_11 : RA M_X0_decide 11 0 12 := Or.inl ⟨0, by decide +kernel, rfl, rfl⟩
theorem r_0_decide_12 : RG M_X0_decide 12 0 4 15 := ⟨26, _, by decide +kernel, rfl, by decide, wd_f0_26, rfl, rfl⟩
theorem r_0_decide_15 : RC M_X0_decide 15 1 16 := ⟨⟨by decide, by decide⟩, Or.inl ⟨by decide +kernel, rfl⟩⟩
theorem r_0_decide_16 : RW M_X0_decide 16 .iaload 17 1 := ⟨by decide +kernel, rfl⟩
theorem r_0_decide_17 : RB M_X0_decide 17 (.if_icmp .ne) 24 20 := ⟨7, by decide +kernel, rfl, rfl⟩
theorem r_0_decide_20 : RC M_X0_decide 20 0 21 := ⟨⟨by decide, by decide⟩, Or.inl ⟨by decide +kernel, rfl⟩⟩
theorem r_0_decide_21 : RB M_X0_decide 21 .goto 26 24 := ⟨5, by decide +kernel, rfl, rfl⟩
theorem r_0_layOut_0 : RC M_X0_layOut 0 0 1 := ⟨⟨by decide, by decide⟩, Or.inl ⟨by decide +kernel, rfl⟩⟩
theorem r_0_layOut_1 : RS M_X0_layOut 1 2 2 := ⟨by decide, Or.inl ⟨2, by decide +kernel, rfl, rfl⟩⟩
theorem r_0_layOut_2 : RA M_X0_layOut 2 0 3 := Or.inl ⟨0, by decide +kernel, rfl, rfl⟩
theorem r_0_layOut_3 : RG M_X0_layOut 3 0 2 6 := ⟨20, _, by decide +kernel, rfl, by decide, wd_f0_20, rfl, rfl⟩
theorem r_0_layOut_6 : RL M_X0_layOut 6 1 7 := Or.inl ⟨1, by decide +kernel, rfl, rfl⟩
theorem r_0_layOut_7 : RW M_X0_layOut 7 .aaload 8 1 := ⟨by decide +kernel, rfl⟩
theorem r_0_layOut_8 : RC M_X0_layOut 8 0 9 := ⟨⟨by decide, by decide⟩, Or.inl ⟨by decide +kernel, rfl⟩⟩
theorem r_0_layOut_9 : RC M_X0_layOut 9 0 10 := ⟨⟨by decide, by decide⟩, Or.inl ⟨by decide +kernel, rfl⟩⟩
theorem r_0_layOut_10 : RW M_X0_layOut 10 .iastore 11 1 := ⟨by decide +kernel, rfl⟩
theorem r_0_layOut_11 : RA M_X0_layOut 11 0 12 := Or.inl ⟨0, by decide +kernel, rfl, rfl⟩
theorem r_0_layOut_12 : RG M_X0_layOut 12 0 3 15 := ⟨23, _, by decide +kernel, rfl, by decide, wd_f0_23, rfl, rfl⟩
theorem r_0_layOut_15 : RL M_X0_layOut 15 1 16 := Or.inl ⟨1, by decide +kernel, rfl, rfl⟩
theorem r_0_layOut_16 : RW M_X0_layOut 16 .aaload 17 1 := ⟨by decide +kernel, rfl⟩
theorem r_0_layOut_17 : RC M_X0_layOut 17 0 18 := ⟨⟨by decide, by decide⟩, Or.inl ⟨by decide +kernel, rfl⟩⟩
theorem r_0_layOut_18 : RC M_X0_layOut 18 1 19 := ⟨⟨by decide, by decide⟩, Or.inl ⟨by decide +kernel, rfl⟩⟩
theorem r_0_layOut_19 : RW M_X0_layOut 19 .iastore 20 1 := ⟨by decide +kernel, rfl⟩
theorem r_0_layOut_20 : RC M_X0_layOut 20 0 21 := ⟨⟨by decide, by decide⟩, Or.inl ⟨by decide +kernel, rfl⟩⟩
theorem r_0_layOut_21 : RS M_X0_layOut 21 3 22 := ⟨by decide, Or.inl ⟨3, by decide +kernel, rfl, rfl⟩⟩
theorem r_0_layOut_22 : RL M_X0_layOut 22 3 23 := Or.inl ⟨3, by decide +kernel, rfl, rfl⟩
theorem r_0_layOut_23 : RA M_X0_layOut 23 0 24 := Or.inl ⟨0, by decide +kernel, rfl, rfl⟩
theorem r_0_layOut_24 : RG M_X0_layOut 24 0 1 27 := ⟨16, _, by decide +kernel, rfl, by decide, wd_f0_16, rfl, rfl⟩
theorem r_0_layOut_27 : RL M_X0_layOut 27 1 28 := Or.inl ⟨1, by decide +kernel, rfl, rfl⟩
theorem r_0_layOut_28 : RW M_X0_layOut 28 .iaload 29 1 := ⟨by decide +kernel, rfl⟩
theorem r_0_layOut_29 : RB M_X0_layOut 29 (.if_icmp .ge) 127 32 := ⟨98, by decide +kernel, rfl, rfl⟩
theorem r_0_layOut_127 : RA M_X0_layOut 127 0 128 := Or.inl ⟨0, by decide +kernel, rfl, rfl⟩
theorem r_0_layOut_128 : RG M_X0_layOut 128 0 4 131 := ⟨26, _, by decide +kernel, rfl, by decide, wd_f0_26, rfl, rfl⟩
theorem r_0_layOut_131 : RL M_X0_layOut 131 1 132 := Or.inl ⟨1, by decide +kernel, rfl, rfl⟩
theorem r_0_layOut_132 : RL M_X0_layOut 132 2 133 := Or.inl ⟨2, by decide +kernel, rfl, rfl⟩
theorem r_0_layOut_133 : RW M_X0_layOut 133 .iastore 134 1 := ⟨by decide +kernel, rfl⟩
theorem r_0_layOut_134 : RW M_X0_layOut 134 .return_ 135 1 := ⟨by decide +kernel, rfl⟩
theorem r_0_layOut_32 : RC M_X0_layOut 32 1 33 := ⟨⟨by decide, by decide⟩, Or.inl ⟨by decide +kernel, rfl⟩⟩
theorem r_0_layOut_33 : RS M_X0_layOut 33 4 35 := ⟨by decide, Or.inr ⟨by decide +kernel, rfl⟩⟩
theorem r_0_layOut_35 : RL M_X0_layOut 35 4 37 := Or.inr ⟨by decide +kernel, rfl⟩
theorem r_0_layOut_37 : RA M_X0_layOut 37 0 38 := Or.inl ⟨0, by decide +kernel, rfl, rfl⟩
theorem r_0_layOut_38 : RG M_X0_layOut 38 0 0 41 := ⟨13, _, by decide +kernel, rfl, by decide, wd_f0_13, rfl, rfl⟩
theorem r_0_layOut_41 : RL M_X0_layOut 41 1 42 := Or.inl ⟨1, by decide +kernel, rfl, rfl⟩
theorem r_0_layOut_42 : RW M_X0_layOut 42 .aaload 43 1 := ⟨by decide +kernel, rfl⟩
theorem r_0_layOut_43 : RL M_X0_layOut 43 3 44 := Or.inl ⟨3, by decide +kernel, rfl, rfl⟩
theorem r_0_layOut_44 : RW M_X0_layOut 44 .iaload 45 1 := ⟨by decide +kernel, rfl⟩
theorem r_0_layOut_45 : RB M_X0_layOut 45 (.if_icmp .gt) 121 48 := ⟨76, by decide +kernel, rfl, rfl⟩
theorem r_0_layOut_121 : RI M_X0_layOut 121 3 1 124 := ⟨by decide, by decide +kernel, rfl⟩
theorem r_0_layOut_124 : RB M_X0_layOut 124 .goto 22 127 := ⟨(-102), by decide +kernel, rfl, rfl⟩
theorem r_0_layOut_48 : RL M_X0_layOut 48 2 49 := Or.inl ⟨2, by decide +kernel, rfl, rfl⟩
theorem r_0_layOut_49 : RC M_X0_layOut 49 90 51 := ⟨⟨by decide, by decide⟩, Or.inr (Or.inl ⟨by decide +kernel, by decide, rfl⟩)⟩
theorem r_0_layOut_51 : RB M_X0_layOut 51 (.if_icmp .ge) 121 54 := ⟨70, by decide +kernel, rfl, rfl⟩
theorem r_0_layOut_54 : RL M_X0_layOut 54 4 56 := Or.inr ⟨by decide +kernel, rfl⟩
theorem r_0_layOut_56 : RA M_X0_layOut 56 0 57 := Or.inl ⟨0, by decide +kernel, rfl, rfl⟩
theorem r_0_layOut_57 : RG M_X0_layOut 57 0 0 60 := ⟨13, _, by decide +kernel, rfl, by decide, wd_f0_13, rfl, rfl⟩
theorem r_0_layOut_60 : RL M_X0_layOut 60 1 61 := Or.inl ⟨1, by decide +kernel, rfl, rfl⟩
theorem r_0_layOut_61 : RW M_X0_layOut 61 .aaload 62 1 := ⟨by decide +kernel, rfl⟩
theorem r_0_layOut_62 : RL M_X0_layOut 62 3 63 := Or.inl ⟨3, by decide +kernel, rfl, rfl⟩
theorem r_0_layOut_63 : RW M_X0_layOut 63 .iaload 64 1 := ⟨by decide +kernel, rfl⟩
theorem r_0_layOut_64 : RB M_X0_layOut 64 (.if_icmp .ne) 71 67 := ⟨7, by decide +kernel, rfl, rfl⟩
theorem r_0_layOut_71 : RC M_X0_layOut 71 0 72 := ⟨⟨by decide, by decide⟩, Or.inl ⟨by decide +kernel, rfl⟩⟩
theorem r_0_layOut_72 : RS M_X0_layOut 72 5 74 := ⟨by decide, Or.inr ⟨by decide +kernel, rfl⟩⟩
theorem r_0_layOut_74 : RI M_X0_layOut 74 2 1 77 := ⟨by decide, by decide +kernel, rfl⟩
theorem r_0_layOut_77 : RA M_X0_layOut 77 0 78 := Or.inl ⟨0, by decide +kernel, rfl, rfl⟩
theorem r_0_layOut_78 : RG M_X0_layOut 78 0 2 81 := ⟨20, _, by decide +kernel, rfl, by decide, wd_f0_20, rfl, rfl⟩
theorem r_0_layOut_81 : RL M_X0_layOut 81 1 82 := Or.inl ⟨1, by decide +kernel, rfl, rfl⟩
theorem r_0_layOut_82 : RW M_X0_layOut 82 .aaload 83 1 := ⟨by decide +kernel, rfl⟩
theorem r_0_layOut_83 : RL M_X0_layOut 83 2 84 := Or.inl ⟨2, by decide +kernel, rfl, rfl⟩
theorem r_0_layOut_84 : RL M_X0_layOut 84 5 86 := Or.inr ⟨by decide +kernel, rfl⟩
theorem r_0_layOut_86 : RB M_X0_layOut 86 (.ifCond .eq) 95 89 := ⟨9, by decide +kernel, rfl, rfl⟩
theorem r_0_layOut_95 : RL M_X0_layOut 95 3 96 := Or.inl ⟨3, by decide +kernel, rfl, rfl⟩
theorem r_0_layOut_96 : RW M_X0_layOut 96 .iastore 97 1 := ⟨by decide +kernel, rfl⟩
theorem r_0_layOut_97 : RA M_X0_layOut 97 0 98 := Or.inl ⟨0, by decide +kernel, rfl, rfl⟩
theorem r_0_layOut_98 : RG M_X0_layOut 98 0 3 101 := ⟨23, _, by decide +kernel, rfl, by decide, wd_f0_23, rfl, rfl⟩
theorem r_0_layOut_101 : RL M_X0_layOut 101 1 102 := Or.inl ⟨1, by decide +kernel, rfl, rfl⟩
theorem r_0_layOut_102 : RW M_X0_layOut 102 .aaload 103 1 := ⟨by decide +kernel, rfl⟩
theorem r_0_layOut_103 : RL M_X0_layOut 103 2 104 := Or.inl ⟨2, by decide +kernel, rfl, rfl⟩
theorem r_0_layOut_104 : RL M_X0_layOut 104 5 106 := Or.inr ⟨by decide +kernel, rfl⟩
theorem r_0_layOut_106 : RB M_X0_layOut 106 (.ifCond .eq) 113 109 := ⟨7, by decide +kernel, rfl, rfl⟩
theorem r_0_layOut_113 : RC M_X0_layOut 113 0 114 := ⟨⟨by decide, by decide⟩, Or.inl ⟨by decide +kernel, rfl⟩⟩
theorem r_0_layOut_114 : RW M_X0_layOut 114 .iastore 115 1 := ⟨by decide +kernel, rfl⟩
theorem r_0_layOut_115 : RI M_X0_layOut 115 4 1 118 := ⟨by decide, by decide +kernel, rfl⟩
theorem r_0_layOut_118 : RB M_X0_layOut 118 .goto 35 121 := ⟨(-83), by decide +kernel, rfl, rfl⟩
theorem r_0_layOut_67 : RC M_X0_layOut 67 1 68 := ⟨⟨by decide, by decide⟩, Or.inl ⟨by decide +kernel, rfl⟩⟩
theorem r_0_layOut_68 : RB M_X0_layOut 68 .goto 72 71 := ⟨4, by decide +kernel, rfl, rfl⟩
theorem r_0_layOut_89 : RL M_X0_layOut 89 3 90 := Or.inl ⟨3, by decide +kernel, rfl, rfl⟩
theorem r_0_layOut_90 : RC M_X0_layOut 90 1 91 := ⟨⟨by decide, by decide⟩, Or.inl ⟨by decide +kernel, rfl⟩⟩
theorem r_0_layOut_91 : RW M_X0_layOut 91 .iadd 92 1 := ⟨by decide +kernel, rfl⟩
theorem r_0_layOut_92 : RB M_X0_layOut 92 .goto 96 95 := ⟨4, by decide +kernel, rfl, rfl⟩
theorem r_0_layOut_109 : RC M_X0_layOut 109 1 110 := ⟨⟨by decide, by decide⟩, Or.inl ⟨by decide +kernel, rfl⟩⟩
theorem r_0_layOut_110 : RB M_X0_layOut 110 .goto 114 113 := ⟨4, by decide +kernel, rfl, rfl⟩
theorem r_0_keepStarts_0 : RC M_X0_keepStarts 0 0 1 := ⟨⟨by decide, by decide⟩, Or.inl ⟨by decide +kernel, rfl⟩⟩
theorem r_0_keepStarts_1 : RS M_X0_keepStarts 1 1 2 := ⟨by decide, Or.inl ⟨1, by decide +kernel, rfl, rfl⟩⟩
theorem r_0_keepStarts_2 : RC M_X0_keepStarts 2 0 3 := ⟨⟨by decide, by decide⟩, Or.inl ⟨by decide +kernel, rfl⟩⟩
theorem r_0_keepStarts_3 : RS M_X0_keepStarts 3 2 4 := ⟨by decide, Or.inl ⟨2, by decide +kernel, rfl, rfl⟩⟩
theorem r_0_keepStarts_4 : RC M_X0_keepStarts 4 0 5 := ⟨⟨by decide, by decide⟩, Or.inl ⟨by decide +kernel, rfl⟩⟩
theorem r_0_keepStarts_5 : RS M_X0_keepStarts 5 3 6 := ⟨by decide, Or.inl ⟨3, by decide +kernel, rfl, rfl⟩⟩
theorem r_0_keepStarts_6 : RL M_X0_keepStarts 6 3 7 := Or.inl ⟨3, by decide +kernel, rfl, rfl⟩
theorem r_0_keepStarts_7 : RA M_X0_keepStarts 7 0 8 := Or.inl ⟨0, by decide +kernel, rfl, rfl⟩
theorem r_0_keepStarts_8 : RG M_X0_keepStarts 8 0 8 11 := ⟨51, _, by decide +kernel, rfl, by decide, wd_f0_51, rfl, rfl⟩
theorem r_0_keepStarts_11 : RB M_X0_keepStarts 11 (.if_icmp .ge) 102 14 := ⟨91, by decide +kernel, rfl, rfl⟩
theorem r_0_keepStarts_102 : RW M_X0_keepStarts 102 .return_ 103 1 := ⟨by decide +kernel, rfl⟩
theorem r_0_keepStarts_14 : RL M_X0_keepStarts 14 3 15 := Or.inl ⟨3, by decide +kernel, rfl, rfl⟩
theorem r_0_keepStarts_15 : RA M_X0_keepStarts 15 0 16 := Or.inl ⟨0, by decide +kernel, rfl, rfl⟩
theorem r_0_keepStarts_16 : RG M_X0_keepStarts 16 0 7 19 := ⟨35, _, by decide +kernel, rfl, by decide, wd_f0_35, rfl, rfl⟩
theorem r_0_keepStarts_19 : RW M_X0_keepStarts 19 .arraylength 20 1 := ⟨by decide +kernel, rfl⟩
theorem r_0_keepStarts_20 : RB M_X0_keepStarts 20 (.if_icmp .ge) 102 23 := ⟨82, by decide +kernel, rfl, rfl⟩
theorem r_0_keepStarts_23 : RL M_X0_keepStarts 23 1 24 := Or.inl ⟨1, by decide +kernel, rfl, rfl⟩
theorem r_0_keepStarts_24 : RC M_X0_keepStarts 24 91 26 := ⟨⟨by decide, by decide⟩, Or.inr (Or.inl ⟨by decide +kernel, by decide, rfl⟩)⟩
theorem r_0_keepStarts_26 : RB M_X0_keepStarts 26 (.if_icmp .ge) 102 29 := ⟨76, by decide +kernel, rfl, rfl⟩
theorem r_0_keepStarts_29 : RL M_X0_keepStarts 29 2 30 := Or.inl ⟨2, by decide +kernel, rfl, rfl⟩
theorem r_0_keepStarts_30 : RC M_X0_keepStarts 30 91 32 := ⟨⟨by decide, by decide⟩, Or.inr (Or.inl ⟨by decide +kernel, by decide, rfl⟩)⟩
theorem r_0_keepStarts_32 : RB M_X0_keepStarts 32 (.if_icmp .ge) 102 35 := ⟨70, by decide +kernel, rfl, rfl⟩
theorem r_0_keepStarts_35 : RA M_X0_keepStarts 35 0 36 := Or.inl ⟨0, by decide +kernel, rfl, rfl⟩
theorem r_0_keepStarts_36 : RL M_X0_keepStarts 36 1 37 := Or.inl ⟨1, by decide +kernel, rfl, rfl⟩
theorem r_0_keepStarts_37 : RL M_X0_keepStarts 37 2 38 := Or.inl ⟨2, by decide +kernel, rfl, rfl⟩
theorem r_0_keepStarts_38 : RKv M_X0_keepStarts M_X0_walkingFrom 38 2 0 41 := ⟨68, by decide +kernel, wd_m0_68, ok_M_X0_walkingFrom, wd_s0_walkingFrom, rfl⟩
theorem r_0_keepStarts_41 : RS M_X0_keepStarts 41 4 43 := ⟨by decide, Or.inr ⟨by decide +kernel, rfl⟩⟩
theorem r_0_keepStarts_43 : RL M_X0_keepStarts 43 4 45 := Or.inr ⟨by decide +kernel, rfl⟩
theorem r_0_keepStarts_45 : RC M_X0_keepStarts 45 1 46 := ⟨⟨by decide, by decide⟩, Or.inl ⟨by decide +kernel, rfl⟩⟩
theorem r_0_keepStarts_46 : RW M_X0_keepStarts 46 .iand 47 1 := ⟨by decide +kernel, rfl⟩
theorem r_0_keepStarts_47 : RS M_X0_keepStarts 47 5 49 := ⟨by decide, Or.inr ⟨by decide +kernel, rfl⟩⟩
theorem r_0_keepStarts_49 : RL M_X0_keepStarts 49 4 51 := Or.inr ⟨by decide +kernel, rfl⟩
theorem r_0_keepStarts_51 : RC M_X0_keepStarts 51 1 52 := ⟨⟨by decide, by decide⟩, Or.inl ⟨by decide +kernel, rfl⟩⟩
theorem r_0_keepStarts_52 : RW M_X0_keepStarts 52 .ishr 53 1 := ⟨by decide +kernel, rfl⟩
theorem r_0_keepStarts_53 : RS M_X0_keepStarts 53 6 55 := ⟨by decide, Or.inr ⟨by decide +kernel, rfl⟩⟩
theorem r_0_keepStarts_55 : RA M_X0_keepStarts 55 0 56 := Or.inl ⟨0, by decide +kernel, rfl, rfl⟩
theorem r_0_keepStarts_56 : RG M_X0_keepStarts 56 0 7 59 := ⟨35, _, by decide +kernel, rfl, by decide, wd_f0_35, rfl, rfl⟩
theorem r_0_keepStarts_59 : RL M_X0_keepStarts 59 3 60 := Or.inl ⟨3, by decide +kernel, rfl, rfl⟩
theorem r_0_keepStarts_60 : RA M_X0_keepStarts 60 0 61 := Or.inl ⟨0, by decide +kernel, rfl, rfl⟩
theorem r_0_keepStarts_61 : RG M_X0_keepStarts 61 0 3 64 := ⟨23, _, by decide +kernel, rfl, by decide, wd_f0_23, rfl, rfl⟩
theorem r_0_keepStarts_64 : RC M_X0_keepStarts 64 0 65 := ⟨⟨by decide, by decide⟩, Or.inl ⟨by decide +kernel, rfl⟩⟩
theorem r_0_keepStarts_65 : RW M_X0_keepStarts 65 .aaload 66 1 := ⟨by decide +kernel, rfl⟩
theorem r_0_keepStarts_66 : RL M_X0_keepStarts 66 1 67 := Or.inl ⟨1, by decide +kernel, rfl, rfl⟩
theorem r_0_keepStarts_67 : RW M_X0_keepStarts 67 .iaload 68 1 := ⟨by decide +kernel, rfl⟩
theorem r_0_keepStarts_68 : RL M_X0_keepStarts 68 5 70 := Or.inr ⟨by decide +kernel, rfl⟩
theorem r_0_keepStarts_70 : RW M_X0_keepStarts 70 .imul 71 1 := ⟨by decide +kernel, rfl⟩
theorem r_0_keepStarts_71 : RC M_X0_keepStarts 71 2 72 := ⟨⟨by decide, by decide⟩, Or.inl ⟨by decide +kernel, rfl⟩⟩
theorem r_0_keepStarts_72 : RA M_X0_keepStarts 72 0 73 := Or.inl ⟨0, by decide +kernel, rfl, rfl⟩
theorem r_0_keepStarts_73 : RG M_X0_keepStarts 73 0 3 76 := ⟨23, _, by decide +kernel, rfl, by decide, wd_f0_23, rfl, rfl⟩
theorem r_0_keepStarts_76 : RC M_X0_keepStarts 76 1 77 := ⟨⟨by decide, by decide⟩, Or.inl ⟨by decide +kernel, rfl⟩⟩
theorem r_0_keepStarts_77 : RW M_X0_keepStarts 77 .aaload 78 1 := ⟨by decide +kernel, rfl⟩
theorem r_0_keepStarts_78 : RL M_X0_keepStarts 78 2 79 := Or.inl ⟨2, by decide +kernel, rfl, rfl⟩
theorem r_0_keepStarts_79 : RW M_X0_keepStarts 79 .iaload 80 1 := ⟨by decide +kernel, rfl⟩
theorem r_0_keepStarts_80 : RW M_X0_keepStarts 80 .imul 81 1 := ⟨by decide +kernel, rfl⟩
theorem r_0_keepStarts_81 : RL M_X0_keepStarts 81 6 83 := Or.inr ⟨by decide +kernel, rfl⟩
theorem r_0_keepStarts_83 : RW M_X0_keepStarts 83 .imul 84 1 := ⟨by decide +kernel, rfl⟩
theorem r_0_keepStarts_84 : RW M_X0_keepStarts 84 .iadd 85 1 := ⟨by decide +kernel, rfl⟩
theorem r_0_keepStarts_85 : RW M_X0_keepStarts 85 .iastore 86 1 := ⟨by decide +kernel, rfl⟩
theorem r_0_keepStarts_86 : RL M_X0_keepStarts 86 1 87 := Or.inl ⟨1, by decide +kernel, rfl, rfl⟩
theorem r_0_keepStarts_87 : RL M_X0_keepStarts 87 5 89 := Or.inr ⟨by decide +kernel, rfl⟩
theorem r_0_keepStarts_89 : RW M_X0_keepStarts 89 .iadd 90 1 := ⟨by decide +kernel, rfl⟩
theorem r_0_keepStarts_90 : RS M_X0_keepStarts 90 1 91 := ⟨by decide, Or.inl ⟨1, by decide +kernel, rfl, rfl⟩⟩
theorem r_0_keepStarts_91 : RL M_X0_keepStarts 91 2 92 := Or.inl ⟨2, by decide +kernel, rfl, rfl⟩
theorem r_0_keepStarts_92 : RL M_X0_keepStarts 92 6 94 := Or.inr ⟨by decide +kernel, rfl⟩
theorem r_0_keepStarts_94 : RW M_X0_keepStarts 94 .iadd 95 1 := ⟨by decide +kernel, rfl⟩
theorem r_0_keepStarts_95 : RS M_X0_keepStarts 95 2 96 := ⟨by decide, Or.inl ⟨2, by decide +kernel, rfl, rfl⟩⟩
theorem r_0_keepStarts_96 : RI M_X0_keepStarts 96 3 1 99 := ⟨by decide, by decide +kernel, rfl⟩
theorem r_0_keepStarts_99 : RB M_X0_keepStarts 99 .goto 6 102 := ⟨(-93), by decide +kernel, rfl, rfl⟩
set_option maxRecDepth 10000 in
theorem sp_X0_walkingFrom {l : Launch} {w : Wo} {d : Nat} {G : PH} {P : Option PV → PH → Prop} {a b : Int} (ha : (0 ≤ a ∧ a ≤ 90) ∧ 0 ≤ b ∧ b ≤ 90) (hP : P (some (vI (wgI (gA G 107 0 ((a * 91 + b) / 16)) ((a * 91 + b) % 16)))) G) : PW l w M_X0_walkingFrom (d + 0) 0 [some (vR 0 (0)), some (vI (a)), some (vI (b)), none] [] G P := by
  refine pw_iload r_0_walkingFrom_0 rfl ?_
  refine pw_const r_0_walkingFrom_1 ?_
  refine pw_imul r_0_walkingFrom_3 (by omega) ?_
  refine pw_iload r_0_walkingFrom_4 rfl ?_
  refine pw_iadd r_0_walkingFrom_5 (by omega) ?_
  refine pw_istore (ls' := [some (vR 0 (0)), some (vI (a)), some (vI (b)), some (vI (((a * 91) + b)))]) r_0_walkingFrom_6 rfl rfl ?_
  refine pw_aload r_0_walkingFrom_7 rfl ?_
  refine pw_getR r_0_walkingFrom_8 fs_0_6 (by decide) ?_
  refine pw_iload r_0_walkingFrom_11 rfl ?_
  refine pw_const r_0_walkingFrom_12 ?_
  refine pw_idivN r_0_walkingFrom_14 (by omega) (by omega) (by omega) ?_
  refine pw_iald r_0_walkingFrom_15 sh107 (by omega) (by omega) ?_
  refine pw_const r_0_walkingFrom_16 ?_
  refine pw_iload r_0_walkingFrom_17 rfl ?_
  refine pw_const r_0_walkingFrom_18 ?_
  refine pw_iremN r_0_walkingFrom_20 (by omega) (by omega) ?_
  refine pw_imul r_0_walkingFrom_21 (by omega) ?_
  refine pw_ishr r_0_walkingFrom_22 ?_
  refine pw_const r_0_walkingFrom_23 ?_
  refine pw_iand r_0_walkingFrom_24 ?_
  refine pw_top (b := wgI (gA G 107 0 ((a * 91 + b) / 16)) ((a * 91 + b) % 16)) (rfl) ?_
  refine pw_iret r_0_walkingFrom_25 rfl (Nat.le_refl _) ⟨rfl, ?_⟩
  exact hP
set_option maxRecDepth 10000 in
theorem sp_X0_decide {l : Launch} {w : Wo} {d : Nat} {G : PH} {P : Option PV → PH → Prop} {a b h e : Int} {v : Int → Int} (htt : (0 ≤ (gA G 27 0 (0)) ∧ (gA G 27 0 (0)) ≤ 90) ∧ 0 ≤ (gA G 27 0 (1)) ∧ (gA G 27 0 (1)) ≤ 90) (hov : ∀ r p, 0 ≤ r → r < 2 → 0 ≤ p → p ≤ (gA G 27 0 (r)) → 0 ≤ (gA G 24 (r) (p)) ∧ (gA G 24 (r) (p)) ≤ 10) (ha : (0 ≤ a ∧ a ≤ (gA G 27 0 (0))) ∧ 0 ≤ b ∧ b ≤ (gA G 27 0 (1))) (hh : 1 ≤ h ∧ h ≤ 3) (he : (e = 0 ∧ a = (gA G 27 0 (0)) ∧ b = (gA G 27 0 (1))) ∨ (e = 1000000000 ∧ ¬ (a = (gA G 27 0 (0)) ∧ b = (gA G 27 0 (1))))) (hv : ∀ u, (u = 3 ∨ u = 1 ∨ u = 2) → ((((pA u) = 0 → (gA G 26 0 (a)) ≠ 0) ∧ ((pB u) = 0 → (gA G 26 (1) (b)) ≠ 0) ∧ a + (pA u) ≤ (gA G 27 0 (0)) ∧ b + (pB u) ≤ (gA G 27 0 (1)) ∧ -h ≤ (gA G 24 0 (a + (pA u))) - (gA G 24 (1) (b + (pB u))) ∧ (gA G 24 0 (a + (pA u))) - (gA G 24 (1) (b + (pB u))) ≤ h) ∧ v u = (gA G 28 0 ((a + (pA u)) % 2 * 91 + (b + (pB u))))) ∨ (¬ (((pA u) = 0 → (gA G 26 0 (a)) ≠ 0) ∧ ((pB u) = 0 → (gA G 26 (1) (b)) ≠ 0) ∧ a + (pA u) ≤ (gA G 27 0 (0)) ∧ b + (pB u) ≤ (gA G 27 0 (1)) ∧ -h ≤ (gA G 24 0 (a + (pA u))) - (gA G 24 (1) (b + (pB u))) ∧ (gA G 24 0 (a + (pA u))) - (gA G 24 (1) (b + (pB u))) ≤ h) ∧ v u = 1000000000)) (hvb : ∀ u, (u = 3 ∨ u = 1 ∨ u = 2) → 0 ≤ v u ∧ v u ≤ 1000000000) (hP : P none (sA (sA G 28 0 (a % 2 * 91 + b) ((dcI v e 3).1)) 107 0 ((a * 91 + b) / 16) (wpI (gA G 107 0 ((a * 91 + b) / 16)) ((a * 91 + b) % 16) ((dcI v e 3).2)))) : PW l w M_X0_decide (d + 2) 0 [some (vR 0 (0)), some (vI (a)), some (vI (b)), some (vI (h)), none, none, none, none, none] [] G P := by
  have L26 : ∀ (f0 : Int), (hf0 : f0 = e) → PW l w M_X0_decide (d + 2) 26 [some (vR 0 (0)), some (vI (a)), some (vI (b)), some (vI (h)), none, none, none, none, none] [vI (f0)] G P := by
    intro f0 hf0
    refine pw_istore (ls' := [some (vR 0 (0)), some (vI (a)), some (vI (b)), some (vI (h)), some (vI (f0)), none, none, none, none]) r_0_decide_26 rfl rfl ?_
    refine pw_const r_0_decide_28 ?_
    refine pw_istore (ls' := [some (vR 0 (0)), some (vI (a)), some (vI (b)), some (vI (h)), some (vI (f0)), some (vI (0)), none, none, none]) r_0_decide_29 rfl rfl ?_
    refine pw_const r_0_decide_31 ?_
    refine pw_istore (ls' := [some (vR 0 (0)), some (vI (a)), some (vI (b)), some (vI (h)), some (vI (f0)), some (vI (0)), some (vI (0)), none, none]) r_0_decide_32 rfl rfl ?_
    have L34 : ∀ (nF : Nat) (i f u : Int), (hi : 0 ≤ i ∧ i ≤ 3) → (hd : dcI v e i = (f, u)) → (hfb : 0 ≤ f ∧ f ≤ 1000000000) → (3 - i).toNat < nF → PW l w M_X0_decide (d + 2) 34 [some (vR 0 (0)), some (vI (a)), some (vI (b)), some (vI (h)), some (vI (f)), some (vI (u)), some (vI (i)), none, none] [] G P := by
      intro nF
      induction nF with
      | zero => intro _ _ _ _ _ _ hM; exact absurd hM (Nat.not_lt_zero _)
      | succ nF ih34 =>
        intro i f u hi hd hfb hM34
        refine pw_iload r_0_decide_34 rfl ?_
        refine pw_const r_0_decide_36 ?_
        refine pw_icmp_ge r_0_decide_37 (fun h37 => ?_) (fun h37 => ?_)
        · skip
          have ei : i = 3 := by omega
          rw [ei] at hd
          rw [hd] at hP
          refine pw_aload r_0_decide_87 rfl ?_
          refine pw_getR r_0_decide_88 fs_0_5 (by decide) ?_
          refine pw_iload r_0_decide_91 rfl ?_
          refine pw_const r_0_decide_92 ?_
          refine pw_iand r_0_decide_93 ?_
          refine pw_top (b := a % 2) (pAnd_1 _) ?_
          refine pw_const r_0_decide_94 ?_
          refine pw_imul r_0_decide_96 (by omega) ?_
          refine pw_iload r_0_decide_97 rfl ?_
          refine pw_iadd r_0_decide_98 (by omega) ?_
          refine pw_iload r_0_decide_99 rfl ?_
          refine pw_iast r_0_decide_101 sh28 (by omega) (by omega) ?_
          refine pw_iload r_0_decide_102 rfl ?_
          refine pw_const r_0_decide_103 ?_
          refine pw_imul r_0_decide_105 (by omega) ?_
          refine pw_iload r_0_decide_106 rfl ?_
          refine pw_iadd r_0_decide_107 (by omega) ?_
          refine pw_istore (ls' := [some (vR 0 (0)), some (vI (a)), some (vI (b)), some (vI (h)), some (vI (f)), some (vI (u)), some (vI (((a * 91) + b))), none, none]) r_0_decide_108 rfl rfl ?_
          refine pw_const r_0_decide_110 ?_
          refine pw_iload r_0_decide_111 rfl ?_
          refine pw_const r_0_decide_113 ?_
          refine pw_iremN r_0_decide_115 (by omega) (by omega) ?_
          refine pw_imul r_0_decide_116 (by omega) ?_
          refine pw_istore (ls' := [some (vR 0 (0)), some (vI (a)), some (vI (b)), some (vI (h)), some (vI (f)), some (vI (u)), some (vI (((a * 91) + b))), some (vI ((2 * (((a * 91) + b) % 16)))), none]) r_0_decide_117 rfl rfl ?_
          refine pw_aload r_0_decide_119 rfl ?_
          refine pw_getR r_0_decide_120 fs_0_6 (by decide) ?_
          refine pw_iload r_0_decide_123 rfl ?_
          refine pw_const r_0_decide_125 ?_
          refine pw_idivN r_0_decide_127 (by omega) (by omega) (by omega) ?_
          refine pw_aload r_0_decide_128 rfl ?_
          refine pw_getR r_0_decide_129 fs_0_6 (by decide) ?_
          refine pw_iload r_0_decide_132 rfl ?_
          refine pw_const r_0_decide_134 ?_
          refine pw_idivN r_0_decide_136 (by omega) (by omega) (by omega) ?_
          refine pw_ialdv (v := gA G 107 (0) ((((a * 91) + b) / 16))) r_0_decide_137 sh107 (by omega) (by omega) (by first | rfl | simp [gF_sF, gF_sA, gF_uA, gF_sD, gA_sF, gA_sA, gA_uA, gA_sD, gD_sF, gD_sA, gD_uA, gD_sD]) ?_
          refine pw_const r_0_decide_138 ?_
          refine pw_iload r_0_decide_139 rfl ?_
          refine pw_ishl r_0_decide_141 ?_
          refine pw_const r_0_decide_142 ?_
          refine pw_ixor r_0_decide_143 ?_
          refine pw_iand r_0_decide_144 ?_
          refine pw_iload r_0_decide_145 rfl ?_
          refine pw_iload r_0_decide_147 rfl ?_
          refine pw_ishl r_0_decide_149 ?_
          refine pw_ior r_0_decide_150 ?_
          refine pw_top (b := wpI (gA G 107 0 ((a * 91 + b) / 16)) ((a * 91 + b) % 16) u) (rfl) ?_
          refine pw_iast r_0_decide_151 sh107 (by omega) (by omega) ?_
          refine pw_vret r_0_decide_152 rfl (Nat.le_refl _) ⟨rfl, ?_⟩
          exact hP
        · skip
          have L51 : ∀ (x : Int), (hx : x = wkF i) → PW l w M_X0_decide (d + 2) 51 [some (vR 0 (0)), some (vI (a)), some (vI (b)), some (vI (h)), some (vI (f)), some (vI (u)), some (vI (i)), none, none] [vI (x)] G P := by
            intro x hx
            refine pw_istore (ls' := [some (vR 0 (0)), some (vI (a)), some (vI (b)), some (vI (h)), some (vI (f)), some (vI (u)), some (vI (i)), some (vI (x)), none]) r_0_decide_51 rfl rfl ?_
            have hx3 := wk_3 hi.1 (by omega) hx
            have hvw := hv x hx3
            have hvx := hvb x hx3
            have hpx := pAB hx3
            refine pw_const r_0_decide_53 ?_
            refine pw_aload r_0_decide_54 rfl ?_
            refine pw_iload r_0_decide_55 rfl ?_
            refine pw_iload r_0_decide_56 rfl ?_
            refine pw_iload r_0_decide_57 rfl ?_
            refine pw_iload r_0_decide_59 rfl ?_
            refine pw_callV (av := [vI (a), vI (b), vI (x), vI (h)]) (st := [vI (1)]) (ls0 := [some (vR 0 (0)), some (vI (a)), some (vI (b)), some (vI (x)), some (vI (h)), none, none, none, none]) r_0_decide_60 rfl rfl rfl (Nat.le_refl _) ?_
            refine sp_X0_leastAfter (sa := (pA x)) (sb := (pB x)) (by exact htt) (by exact hov) (by exact ha) (by exact hh) (by exact hpx) ?_ ?_
            · skip
              intro q1
              have ev : v x = 1000000000 := by rcases hvw with z | z; exact absurd z.1 q1; exact z.2
              clear hvw q1
              refine pw_top (b := v x) (ev.symm) ?_
              refine pw_iadd r_0_decide_63 (by omega) ?_
              refine pw_istore (ls' := [some (vR 0 (0)), some (vI (a)), some (vI (b)), some (vI (h)), some (vI (f)), some (vI (u)), some (vI (i)), some (vI (x)), some (vI ((1 + (v x))))]) r_0_decide_64 rfl rfl ?_
              refine pw_iload r_0_decide_66 rfl ?_
              refine pw_iload r_0_decide_68 rfl ?_
              refine pw_icmp_ge r_0_decide_70 (fun h70 => ?_) (fun h70 => ?_)
              · skip
                refine pw_iinc (b := 0) (ls' := [some (vR 0 (0)), some (vI (a)), some (vI (b)), some (vI (h)), some (vI (f)), some (vI (u)), some (vI ((i + 1))), some (vI (x)), some (vI ((1 + (v x))))]) r_0_decide_81 rfl rfl (by omega) rfl ?_
                refine pw_goto r_0_decide_84 ?_
                refine pw_weakL (ls' := [some (vR 0 (0)), some (vI (a)), some (vI (b)), some (vI (h)), some (vI (f)), some (vI (u)), some (vI ((i + 1))), none, none]) (⟨rfl, ⟨rfl, ⟨rfl, ⟨rfl, ⟨rfl, ⟨rfl, ⟨rfl, trivial⟩⟩⟩⟩⟩⟩⟩) ?_
                exact ih34 ((i + 1)) (f) (u) (by omega) (by first | exact dc_t hi.1 hd hx (by omega) | exact dc_f hi.1 hd hx (by omega)) (by omega) (by omega)
              · skip
                refine pw_iload r_0_decide_73 rfl ?_
                refine pw_istore (ls' := [some (vR 0 (0)), some (vI (a)), some (vI (b)), some (vI (h)), some (vI ((1 + (v x)))), some (vI (u)), some (vI (i)), some (vI (x)), some (vI ((1 + (v x))))]) r_0_decide_75 rfl rfl ?_
                refine pw_iload r_0_decide_77 rfl ?_
                refine pw_istore (ls' := [some (vR 0 (0)), some (vI (a)), some (vI (b)), some (vI (h)), some (vI ((1 + (v x)))), some (vI (x)), some (vI (i)), some (vI (x)), some (vI ((1 + (v x))))]) r_0_decide_79 rfl rfl ?_
                refine pw_iinc (b := 0) (ls' := [some (vR 0 (0)), some (vI (a)), some (vI (b)), some (vI (h)), some (vI ((1 + (v x)))), some (vI (x)), some (vI ((i + 1))), some (vI (x)), some (vI ((1 + (v x))))]) r_0_decide_81 rfl rfl (by omega) rfl ?_
                refine pw_goto r_0_decide_84 ?_
                refine pw_weakL (ls' := [some (vR 0 (0)), some (vI (a)), some (vI (b)), some (vI (h)), some (vI ((1 + (v x)))), some (vI (x)), some (vI ((i + 1))), none, none]) (⟨rfl, ⟨rfl, ⟨rfl, ⟨rfl, ⟨rfl, ⟨rfl, ⟨rfl, trivial⟩⟩⟩⟩⟩⟩⟩) ?_
                exact ih34 ((i + 1)) ((1 + (v x))) (x) (by omega) (by first | exact dc_t hi.1 hd hx (by omega) | exact dc_f hi.1 hd hx (by omega)) (by omega) (by omega)
            · skip
              intro q1
              have ev : v x = (gA G 28 0 ((a + pA x) % 2 * 91 + (b + pB x))) := by rcases hvw with z | z; exact z.2; exact absurd q1 z.1
              clear hvw q1
              refine pw_top (b := v x) (ev.symm) ?_
              refine pw_iadd r_0_decide_63 (by omega) ?_
              refine pw_istore (ls' := [some (vR 0 (0)), some (vI (a)), some (vI (b)), some (vI (h)), some (vI (f)), some (vI (u)), some (vI (i)), some (vI (x)), some (vI ((1 + (v x))))]) r_0_decide_64 rfl rfl ?_
              refine pw_iload r_0_decide_66 rfl ?_
              refine pw_iload r_0_decide_68 rfl ?_
              refine pw_icmp_ge r_0_decide_70 (fun h70 => ?_) (fun h70 => ?_)
              · skip
                refine pw_iinc (b := 0) (ls' := [some (vR 0 (0)), some (vI (a)), some (vI (b)), some (vI (h)), some (vI (f)), some (vI (u)), some (vI ((i + 1))), some (vI (x)), some (vI ((1 + (v x))))]) r_0_decide_81 rfl rfl (by omega) rfl ?_
                refine pw_goto r_0_decide_84 ?_
                refine pw_weakL (ls' := [some (vR 0 (0)), some (vI (a)), some (vI (b)), some (vI (h)), some (vI (f)), some (vI (u)), some (vI ((i + 1))), none, none]) (⟨rfl, ⟨rfl, ⟨rfl, ⟨rfl, ⟨rfl, ⟨rfl, ⟨rfl, trivial⟩⟩⟩⟩⟩⟩⟩) ?_
                exact ih34 ((i + 1)) (f) (u) (by omega) (by first | exact dc_t hi.1 hd hx (by omega) | exact dc_f hi.1 hd hx (by omega)) (by omega) (by omega)
              · skip
                refine pw_iload r_0_decide_73 rfl ?_
                refine pw_istore (ls' := [some (vR 0 (0)), some (vI (a)), some (vI (b)), some (vI (h)), some (vI ((1 + (v x)))), some (vI (u)), some (vI (i)), some (vI (x)), some (vI ((1 + (v x))))]) r_0_decide_75 rfl rfl ?_
                refine pw_iload r_0_decide_77 rfl ?_
                refine pw_istore (ls' := [some (vR 0 (0)), some (vI (a)), some (vI (b)), some (vI (h)), some (vI ((1 + (v x)))), some (vI (x)), some (vI (i)), some (vI (x)), some (vI ((1 + (v x))))]) r_0_decide_79 rfl rfl ?_
                refine pw_iinc (b := 0) (ls' := [some (vR 0 (0)), some (vI (a)), some (vI (b)), some (vI (h)), some (vI ((1 + (v x)))), some (vI (x)), some (vI ((i + 1))), some (vI (x)), some (vI ((1 + (v x))))]) r_0_decide_81 rfl rfl (by omega) rfl ?_
                refine pw_goto r_0_decide_84 ?_
                refine pw_weakL (ls' := [some (vR 0 (0)), some (vI (a)), some (vI (b)), some (vI (h)), some (vI ((1 + (v x)))), some (vI (x)), some (vI ((i + 1))), none, none]) (⟨rfl, ⟨rfl, ⟨rfl, ⟨rfl, ⟨rfl, ⟨rfl, ⟨rfl, trivial⟩⟩⟩⟩⟩⟩⟩) ?_
                exact ih34 ((i + 1)) ((1 + (v x))) (x) (by omega) (by first | exact dc_t hi.1 hd hx (by omega) | exact dc_f hi.1 hd hx (by omega)) (by omega) (by omega)
          refine pw_iload r_0_decide_40 rfl ?_
          refine pw_if_ne r_0_decide_42 (fun h42 => ?_) (fun h42 => ?_)
          · skip
            refine pw_iload r_0_decide_49 rfl ?_
            exact L51 (i) (by unfold wkF; first | exact (if_pos (by omega)).symm | exact (if_neg (by omega)).symm) 
          · skip
            refine pw_const r_0_decide_45 ?_
            refine pw_goto r_0_decide_46 ?_
            exact L51 (3) (by unfold wkF; first | exact (if_pos (by omega)).symm | exact (if_neg (by omega)).symm) 
    exact L34 _ (0) (f0) (0) (by omega) (by rw [hf0]; exact dc_0) (by omega) (Nat.lt_succ_self _)
  refine pw_iload r_0_decide_0 rfl ?_
  refine pw_aload r_0_decide_1 rfl ?_
  refine pw_getR r_0_decide_2 fs_0_4 (by decide) ?_
  refine pw_const r_0_decide_5 ?_
  refine pw_iald r_0_decide_6 sh27 (by omega) (by omega) ?_
  refine pw_icmp_ne r_0_decide_7 (fun h07 => ?_) (fun h07 => ?_)
  · skip
    refine pw_const r_0_decide_24 ?_
    exact L26 (1000000000) (by first | assumption | omega) 
  · skip
    refine pw_iload r_0_decide_10 rfl ?_
    refine pw_aload r_0_decide_11 rfl ?_
    refine pw_getR r_0_decide_12 fs_0_4 (by decide) ?_
    refine pw_const r_0_decide_15 ?_
    refine pw_iald r_0_decide_16 sh27 (by omega) (by omega) ?_
    refine pw_icmp_ne r_0_decide_17 (fun h17 => ?_) (fun h17 => ?_)
    · skip
      refine pw_const r_0_decide_24 ?_
      exact L26 (1000000000) (by first | assumption | omega) 
    · skip
      refine pw_const r_0_decide_20 ?_
      refine pw_goto r_0_decide_21 ?_
      exact L26 (0) (by first | assumption | omega) 
set_option maxRecDepth 10000 in
theorem sp_X0_layOut {l : Launch} {w : Wo} {d : Nat} {G : PH} {P : Option PV → PH → Prop} {r : Int} (hr : r = 0 ∨ r = 1) (hn : 0 ≤ (gA G 22 0 (r)) ∧ (gA G 22 0 (r)) ≤ 10) (hmin : ∀ i, 0 ≤ i → i < (gA G 22 0 (r)) → 1 ≤ (gA G 21 (r)) i ∧ (gA G 21 (r)) i ≤ 9) (hP : ∀ (T : Int) (f g : Int → Int), RWy (gA G 22 0 (r)) (gA G 21 (r)) T → LOF (gA G 21 (r)) T f g → P none (sA (uA (uA G 24 r f) 26 r g) 27 0 r T)) : PW l w M_X0_layOut (d + 0) 0 [some (vR 0 (0)), some (vI (r)), none, none, none, none] [] G P := by
  refine pw_const r_0_layOut_0 ?_
  refine pw_istore (ls' := [some (vR 0 (0)), some (vI (r)), some (vI (0)), none, none, none]) r_0_layOut_1 rfl rfl ?_
  refine pw_aload r_0_layOut_2 rfl ?_
  refine pw_getR r_0_layOut_3 fs_0_2 (by decide) ?_
  refine pw_iload r_0_layOut_6 rfl ?_
  refine pw_aaldS r_0_layOut_7 sh23 (by decide) (by decide) aS23 rw24 (by omega) (by omega) ?_
  refine pw_const r_0_layOut_8 ?_
  refine pw_const r_0_layOut_9 ?_
  refine pw_iast r_0_layOut_10 sh24 (by omega) (by omega) ?_
  refine pw_aload r_0_layOut_11 rfl ?_
  refine pw_getR r_0_layOut_12 fs_0_3 (by decide) ?_
  refine pw_iload r_0_layOut_15 rfl ?_
  refine pw_aaldS r_0_layOut_16 sh25 (by decide) (by decide) aS25 rw26 (by omega) (by omega) ?_
  refine pw_const r_0_layOut_17 ?_
  refine pw_const r_0_layOut_18 ?_
  refine pw_iast r_0_layOut_19 sh26 (by omega) (by omega) ?_
  refine pw_const r_0_layOut_20 ?_
  refine pw_istore (ls' := [some (vR 0 (0)), some (vI (r)), some (vI (0)), some (vI (0)), none, none]) r_0_layOut_21 rfl rfl ?_
  have L22 : ∀ (nF : Nat) (k t : Int) (f g : Int → Int), (hk : 0 ≤ k ∧ k ≤ (gA G 22 0 (r))) → (ht : 0 ≤ t ∧ t ≤ 9 * k) → (hL : LOI (gA G 21 (r)) k t f g ∧ plX (gA G 21 (r)) t = 0) → ((gA G 22 0 (r)) - k).toNat < nF → PW l w M_X0_layOut (d + 0) 22 [some (vR 0 (0)), some (vI (r)), some (vI (t)), some (vI (k)), none, none] [] (uA (uA G 24 (r) (f)) 26 (r) (g)) P := by
    intro nF
    induction nF with
    | zero => intro _ _ _ _ _ _ _ hM; exact absurd hM (Nat.not_lt_zero _)
    | succ nF ih22 =>
      intro k t f g hk ht hL hM22
      refine pw_iload r_0_layOut_22 rfl ?_
      refine pw_aload r_0_layOut_23 rfl ?_
      refine pw_getR r_0_layOut_24 fs_0_1 (by decide) ?_
      refine pw_iload r_0_layOut_27 rfl ?_
      refine pw_ialdv (v := gA G 22 (0) (r)) r_0_layOut_28 sh22 (by omega) (by omega) (by first | rfl | simp [gF_sF, gF_sA, gF_uA, gF_sD, gA_sF, gA_sA, gA_uA, gA_sD, gD_sF, gD_sA, gD_uA, gD_sD]) ?_
      refine pw_icmp_ge r_0_layOut_29 (fun h29 => ?_) (fun h29 => ?_)
      · skip
        refine pw_aload r_0_layOut_127 rfl ?_
        refine pw_getR r_0_layOut_128 fs_0_4 (by decide) ?_
        refine pw_iload r_0_layOut_131 rfl ?_
        refine pw_iload r_0_layOut_132 rfl ?_
        refine pw_iast r_0_layOut_133 sh27 (by omega) (by omega) ?_
        refine pw_vret r_0_layOut_134 rfl (Nat.le_refl _) ⟨rfl, ?_⟩
        have ek : k = (gA G 22 0 (r)) := by omega
        rw [ek] at hL
        exact hP t f g (lo_end hL.1 hL.2 (by omega)) hL.1.2.2.2
      · skip
        have hwk := hmin k hk.1 (by omega)
        refine pw_const r_0_layOut_32 ?_
        refine pw_istore (ls' := [some (vR 0 (0)), some (vI (r)), some (vI (t)), some (vI (k)), some (vI (1)), none]) r_0_layOut_33 rfl rfl ?_
        have L35 : ∀ (nF : Nat) (m t2 : Int) (f2 g2 : Int → Int), (hm : 1 ≤ m ∧ m ≤ (gA G 21 (r)) k + 1) → (ht2 : 0 ≤ t2 ∧ t2 ≤ 9 * k + m - 1) → (hL2 : (m = 1 ∧ LOI (gA G 21 (r)) k t2 f2 g2 ∧ plX (gA G 21 (r)) t2 = 0) ∨ (2 ≤ m ∧ LOI (gA G 21 (r)) (k + 1) t2 f2 g2 ∧ plX (gA G 21 (r)) t2 = (gA G 21 (r)) k - m + 1)) → ((gA G 21 (r)) k + 1 - m).toNat < nF → PW l w M_X0_layOut (d + 0) 35 [some (vR 0 (0)), some (vI (r)), some (vI (t2)), some (vI (k)), some (vI (m)), none] [] (uA (uA G 24 (r) (f2)) 26 (r) (g2)) P := by
          intro nF
          induction nF with
          | zero => intro _ _ _ _ _ _ _ hM; exact absurd hM (Nat.not_lt_zero _)
          | succ nF ih35 =>
            intro m t2 f2 g2 hm ht2 hL2 hM35
            refine pw_iload r_0_layOut_35 rfl ?_
            refine pw_aload r_0_layOut_37 rfl ?_
            refine pw_getR r_0_layOut_38 fs_0_0 (by decide) ?_
            refine pw_iload r_0_layOut_41 rfl ?_
            refine pw_aaldS r_0_layOut_42 sh20 (by decide) (by decide) aS20 rw21 (by omega) (by omega) ?_
            refine pw_iload r_0_layOut_43 rfl ?_
            refine pw_ialdv (v := gA G 21 (r) (k)) r_0_layOut_44 sh21 (by omega) (by omega) (by first | rfl | simp [gF_sF, gF_sA, gF_uA, gF_sD, gA_sF, gA_sA, gA_uA, gA_sD, gD_sF, gD_sA, gD_uA, gD_sD]) ?_
            refine pw_icmp_gt r_0_layOut_45 (fun h45 => ?_) (fun h45 => ?_)
            · skip
              have hL3 : LOI (gA G 21 (r)) (k + 1) t2 f2 g2 ∧ plX (gA G 21 (r)) t2 = 0 := by rcases hL2 with z | z; exact absurd z.1 (by omega); exact ⟨z.2.1, by omega⟩
              refine pw_iinc (b := 0) (ls' := [some (vR 0 (0)), some (vI (r)), some (vI (t2)), some (vI ((k + 1))), some (vI (m)), none]) r_0_layOut_121 rfl rfl (by omega) rfl ?_
              refine pw_goto r_0_layOut_124 ?_
              refine pw_weakL (ls' := [some (vR 0 (0)), some (vI (r)), some (vI (t2)), some (vI ((k + 1))), none, none]) (⟨rfl, ⟨rfl, ⟨rfl, ⟨rfl, trivial⟩⟩⟩⟩) ?_
              exact ih22 ((k + 1)) (t2) (f2) (g2) (by first | assumption | omega) (by first | assumption | omega) (hL3) (by omega)
            · skip
              refine pw_iload r_0_layOut_48 rfl ?_
              refine pw_const r_0_layOut_49 ?_
              refine pw_icmp_ge r_0_layOut_51 (fun h51 => absurd h51 (by omega)) (fun h51 => ?_)
              have hps := ps_or (x := (gA G 21 (r)) k - m) (by omega)
              have hrs := rs_or (x := (gA G 21 (r)) k - m)
              refine pw_iload r_0_layOut_54 rfl ?_
              refine pw_aload r_0_layOut_56 rfl ?_
              refine pw_getR r_0_layOut_57 fs_0_0 (by decide) ?_
              refine pw_iload r_0_layOut_60 rfl ?_
              refine pw_aaldS r_0_layOut_61 sh20 (by decide) (by decide) aS20 rw21 (by omega) (by omega) ?_
              refine pw_iload r_0_layOut_62 rfl ?_
              refine pw_ialdv (v := gA G 21 (r) (k)) r_0_layOut_63 sh21 (by omega) (by omega) (by first | rfl | simp [gF_sF, gF_sA, gF_uA, gF_sD, gA_sF, gA_sA, gA_uA, gA_sD, gD_sF, gD_sA, gD_uA, gD_sD]) ?_
              refine pw_icmp_ne r_0_layOut_64 (fun h64 => ?_) (fun h64 => ?_)
              · skip
                refine pw_const r_0_layOut_71 ?_
                refine pw_istore (ls' := [some (vR 0 (0)), some (vI (r)), some (vI (t2)), some (vI (k)), some (vI (m)), some (vI (0))]) r_0_layOut_72 rfl rfl ?_
                refine pw_iinc (b := 0) (ls' := [some (vR 0 (0)), some (vI (r)), some (vI ((t2 + 1))), some (vI (k)), some (vI (m)), some (vI (0))]) r_0_layOut_74 rfl rfl (by omega) rfl ?_
                refine pw_aload r_0_layOut_77 rfl ?_
                refine pw_getR r_0_layOut_78 fs_0_2 (by decide) ?_
                refine pw_iload r_0_layOut_81 rfl ?_
                refine pw_aaldS r_0_layOut_82 sh23 (by decide) (by decide) aS23 rw24 (by omega) (by omega) ?_
                refine pw_iload r_0_layOut_83 rfl ?_
                refine pw_iload r_0_layOut_84 rfl ?_
                refine pw_if_eq r_0_layOut_86 (fun h86 => ?_) (fun h86 => absurd h86 (by decide))
                refine pw_iload r_0_layOut_95 rfl ?_
                refine pw_iast r_0_layOut_96 sh24 (by omega) (by omega) ?_
                refine pw_aload r_0_layOut_97 rfl ?_
                refine pw_getR r_0_layOut_98 fs_0_3 (by decide) ?_
                refine pw_iload r_0_layOut_101 rfl ?_
                refine pw_aaldS r_0_layOut_102 sh25 (by decide) (by decide) aS25 rw26 (by omega) (by omega) ?_
                refine pw_iload r_0_layOut_103 rfl ?_
                refine pw_iload r_0_layOut_104 rfl ?_
                refine pw_if_eq r_0_layOut_106 (fun h106 => ?_) (fun h106 => absurd h106 (by decide))
                refine pw_const r_0_layOut_113 ?_
                refine pw_iast r_0_layOut_114 sh26 (by omega) (by omega) ?_
                refine pw_iinc (b := 0) (ls' := [some (vR 0 (0)), some (vI (r)), some (vI ((t2 + 1))), some (vI (k)), some (vI ((m + 1))), some (vI (0))]) r_0_layOut_115 rfl rfl (by omega) rfl ?_
                refine pw_goto r_0_layOut_118 ?_
                refine pw_weakL (ls' := [some (vR 0 (0)), some (vI (r)), some (vI ((t2 + 1))), some (vI (k)), some (vI ((m + 1))), none]) (⟨rfl, ⟨rfl, ⟨rfl, ⟨rfl, ⟨rfl, trivial⟩⟩⟩⟩⟩) ?_
                refine pw_eqG (G' := uA (uA G 24 (r) ((upA f2 (t2 + 1) (k)))) 26 (r) ((upA g2 (t2 + 1) (0)))) (by rw [sA_uA_ne _ _ _ _ _ _ _ _ (by decide), sA_uA, sA_uA]) ?_
                exact ih35 ((m + 1)) ((t2 + 1)) ((upA f2 (t2 + 1) (k))) ((upA g2 (t2 + 1) (0))) (by first | assumption | omega) (by first | assumption | omega) (Or.inr ⟨by omega, lo_go hL2 ht2.1 hk.1 ⟨by omega, by omega⟩ (by omega) (by omega) (by omega)⟩) (by omega)
              · skip
                refine pw_const r_0_layOut_67 ?_
                refine pw_goto r_0_layOut_68 ?_
                refine pw_istore (ls' := [some (vR 0 (0)), some (vI (r)), some (vI (t2)), some (vI (k)), some (vI (m)), some (vI (1))]) r_0_layOut_72 rfl rfl ?_
                refine pw_iinc (b := 0) (ls' := [some (vR 0 (0)), some (vI (r)), some (vI ((t2 + 1))), some (vI (k)), some (vI (m)), some (vI (1))]) r_0_layOut_74 rfl rfl (by omega) rfl ?_
                refine pw_aload r_0_layOut_77 rfl ?_
                refine pw_getR r_0_layOut_78 fs_0_2 (by decide) ?_
                refine pw_iload r_0_layOut_81 rfl ?_
                refine pw_aaldS r_0_layOut_82 sh23 (by decide) (by decide) aS23 rw24 (by omega) (by omega) ?_
                refine pw_iload r_0_layOut_83 rfl ?_
                refine pw_iload r_0_layOut_84 rfl ?_
                refine pw_if_eq r_0_layOut_86 (fun h86 => absurd h86 (by decide)) (fun h86 => ?_)
                refine pw_iload r_0_layOut_89 rfl ?_
                refine pw_const r_0_layOut_90 ?_
                refine pw_iadd r_0_layOut_91 (by omega) ?_
                refine pw_goto r_0_layOut_92 ?_
                refine pw_iast r_0_layOut_96 sh24 (by omega) (by omega) ?_
                refine pw_aload r_0_layOut_97 rfl ?_
                refine pw_getR r_0_layOut_98 fs_0_3 (by decide) ?_
                refine pw_iload r_0_layOut_101 rfl ?_
                refine pw_aaldS r_0_layOut_102 sh25 (by decide) (by decide) aS25 rw26 (by omega) (by omega) ?_
                refine pw_iload r_0_layOut_103 rfl ?_
                refine pw_iload r_0_layOut_104 rfl ?_
                refine pw_if_eq r_0_layOut_106 (fun h106 => absurd h106 (by decide)) (fun h106 => ?_)
                refine pw_const r_0_layOut_109 ?_
                refine pw_goto r_0_layOut_110 ?_
                refine pw_iast r_0_layOut_114 sh26 (by omega) (by omega) ?_
                refine pw_iinc (b := 0) (ls' := [some (vR 0 (0)), some (vI (r)), some (vI ((t2 + 1))), some (vI (k)), some (vI ((m + 1))), some (vI (1))]) r_0_layOut_115 rfl rfl (by omega) rfl ?_
                refine pw_goto r_0_layOut_118 ?_
                refine pw_weakL (ls' := [some (vR 0 (0)), some (vI (r)), some (vI ((t2 + 1))), some (vI (k)), some (vI ((m + 1))), none]) (⟨rfl, ⟨rfl, ⟨rfl, ⟨rfl, ⟨rfl, trivial⟩⟩⟩⟩⟩) ?_
                refine pw_eqG (G' := uA (uA G 24 (r) ((upA f2 (t2 + 1) ((k + 1))))) 26 (r) ((upA g2 (t2 + 1) (1)))) (by rw [sA_uA_ne _ _ _ _ _ _ _ _ (by decide), sA_uA, sA_uA]) ?_
                exact ih35 ((m + 1)) ((t2 + 1)) ((upA f2 (t2 + 1) ((k + 1)))) ((upA g2 (t2 + 1) (1))) (by first | assumption | omega) (by first | assumption | omega) (Or.inr ⟨by omega, lo_go hL2 ht2.1 hk.1 ⟨by omega, by omega⟩ (by omega) (by omega) (by omega)⟩) (by omega)
        exact L35 _ (1) (t) (f) (g) (by first | assumption | omega) (by first | assumption | omega) (Or.inl ⟨rfl, hL.1, hL.2⟩) (Nat.lt_succ_self _)
  refine pw_eqG (G' := uA (uA G 24 (r) ((upA (gA G 24 r) 0 0))) 26 (r) ((upA (gA G 26 r) 0 1))) (by rw [sA_eq, sA_eq]; rfl) ?_
  exact L22 _ (0) (0) ((upA (gA G 24 r) 0 0)) ((upA (gA G 26 r) 0 1)) (by first | assumption | omega) (by first | assumption | omega) (lo_0 (upA_same _ _ _) (upA_same _ _ _)) (Nat.lt_succ_self _)
set_option maxRecDepth 10000 in
theorem sp_X0_keepStarts {l : Launch} {w : Wo} {d : Nat} {G : PH} {P : Option PV → PH → Prop} {h : Int} {wa wb : Int → Int} {V : Int → Int → Int} (htt : (0 ≤ (gA G 27 0 (0)) ∧ (gA G 27 0 (0)) ≤ 90) ∧ 0 ≤ (gA G 27 0 (1)) ∧ (gA G 27 0 (1)) ≤ 90) (hLA : LOF wa (gA G 27 0 (0)) (gA G 24 (0)) (gA G 26 (0))) (hLB : LOF wb (gA G 27 0 (1)) (gA G 24 (1)) (gA G 26 (1))) (hBE : BEL wa wb (gA G 27 0 (0)) (gA G 27 0 (1)) h V) (hwk : WKA wa wb (gA G 27 0 (0)) (gA G 27 0 (1)) h V (gA G 107 0)) (hln : (gF G 0 0 8) = V 0 0 ∧ V 0 0 ≠ 1000000000) (hP : ∀ st : Int → Int, (∀ m, 0 ≤ m → m < (gF G 0 0 8) → st m = bgF wa wb (gA G 27 0 (0)) (gA G 27 0 (1)) h V (ptI wa wb (gA G 27 0 (0)) (gA G 27 0 (1)) h V m).1 (ptI wa wb (gA G 27 0 (0)) (gA G 27 0 (1)) h V m).2) → P none (uA G 29 0 st)) : PW l w M_X0_keepStarts (d + 1) 0 [some (vR 0 (0)), none, none, none, none, none, none] [] G P := by
  have hb0 := bel_0 hBE htt
  refine pw_const r_0_keepStarts_0 ?_
  refine pw_istore (ls' := [some (vR 0 (0)), some (vI (0)), none, none, none, none, none]) r_0_keepStarts_1 rfl rfl ?_
  refine pw_const r_0_keepStarts_2 ?_
  refine pw_istore (ls' := [some (vR 0 (0)), some (vI (0)), some (vI (0)), none, none, none, none]) r_0_keepStarts_3 rfl rfl ?_
  refine pw_const r_0_keepStarts_4 ?_
  refine pw_istore (ls' := [some (vR 0 (0)), some (vI (0)), some (vI (0)), some (vI (0)), none, none, none]) r_0_keepStarts_5 rfl rfl ?_
  have L6 : ∀ (nF : Nat) (m a b : Int) (st : Int → Int), (hm : 0 ≤ m ∧ m ≤ (gF G 0 0 8)) → (hpa : a = (ptI wa wb (gA G 27 0 (0)) (gA G 27 0 (1)) h V m).1) → (hpb : b = (ptI wa wb (gA G 27 0 (0)) (gA G 27 0 (1)) h V m).2) → (hst : ∀ j, 0 ≤ j → j < m → st j = bgF wa wb (gA G 27 0 (0)) (gA G 27 0 (1)) h V (ptI wa wb (gA G 27 0 (0)) (gA G 27 0 (1)) h V j).1 (ptI wa wb (gA G 27 0 (0)) (gA G 27 0 (1)) h V j).2) → ((gF G 0 0 8) - m).toNat < nF → PW l w M_X0_keepStarts (d + 1) 6 [some (vR 0 (0)), some (vI (a)), some (vI (b)), some (vI (m)), none, none, none] [] (uA G 29 (0) (st)) P := by
    intro nF
    induction nF with
    | zero => intro _ _ _ _ _ _ _ _ hM; exact absurd hM (Nat.not_lt_zero _)
    | succ nF ih6 =>
      intro m a b st hm hpa hpb hst hM6
      have hpt := pt_at hBE htt hln.2 ⟨hm.1, by omega⟩ hpa hpb
      refine pw_iload r_0_keepStarts_6 rfl ?_
      refine pw_aload r_0_keepStarts_7 rfl ?_
      refine pw_getIv (v := gF G 0 (0) 8) r_0_keepStarts_8 fs_0_8 (by decide) (by first | rfl | simp [gF_sF, gF_sA, gF_uA, gF_sD, gA_sF, gA_sA, gA_uA, gA_sD, gD_sF, gD_sA, gD_uA, gD_sD]) ?_
      refine pw_icmp_ge r_0_keepStarts_11 (fun h11 => ?_) (fun h11 => ?_)
      · skip
        refine pw_vret r_0_keepStarts_102 rfl (Nat.le_refl _) ⟨rfl, ?_⟩
        exact hP st (fun j j0 j1 => hst j j0 (by omega))
      · skip
        refine pw_iload r_0_keepStarts_14 rfl ?_
        refine pw_aload r_0_keepStarts_15 rfl ?_
        refine pw_getR r_0_keepStarts_16 fs_0_7 (by decide) ?_
        refine pw_alen r_0_keepStarts_19 sh29 (by decide) ?_
        refine pw_top (b := 180) rfl ?_
        refine pw_icmp_ge r_0_keepStarts_20 (fun h20 => absurd h20 (by omega)) (fun h20 => ?_)
        refine pw_iload r_0_keepStarts_23 rfl ?_
        refine pw_const r_0_keepStarts_24 ?_
        refine pw_icmp_ge r_0_keepStarts_26 (fun h26 => absurd h26 (by omega)) (fun h26 => ?_)
        refine pw_iload r_0_keepStarts_29 rfl ?_
        refine pw_const r_0_keepStarts_30 ?_
        refine pw_icmp_ge r_0_keepStarts_32 (fun h32 => absurd h32 (by omega)) (fun h32 => ?_)
        refine pw_aload r_0_keepStarts_35 rfl ?_
        refine pw_iload r_0_keepStarts_36 rfl ?_
        refine pw_iload r_0_keepStarts_37 rfl ?_
        refine pw_callV (av := [vI (a), vI (b)]) (st := []) (ls0 := [some (vR 0 (0)), some (vI (a)), some (vI (b)), none]) r_0_keepStarts_38 rfl rfl rfl (Nat.le_refl _) ?_
        refine sp_X0_walkingFrom (by exact ⟨⟨hpt.1.1, by omega⟩, hpt.2.1.1, by omega⟩) ?_
        refine pw_top (b := wgI (gA G 107 (0) ((a * 91 + b) / 16)) ((a * 91 + b) % 16)) (by first | rfl | simp (disch := decide) [gF_sF, gF_sA, gF_uA, gF_sD, gA_sF, gA_sA, gA_uA, gA_sD, gD_sF, gD_sA, gD_uA, gD_sD]) ?_
        have hne := ne_end hBE hpt.1 hpt.2.1 (by omega)
        have hwp := hwk a b hpt.1.1 hpt.1.2 hpt.2.1.1 hpt.2.1.2 hne (by omega)
        have hub := pA_bit (u := (pk wa wb (gA G 27 0 (0)) (gA G 27 0 (1)) h V a b)) pk_3
        have hpn := pt_n hm.1 hpa hpb
        have hr0 : (gA G 26 0 (a)) = rs (plX wa a) := (hLA a hpt.1.1 hpt.1.2).2
        have hr1 : (gA G 26 (1) (b)) = rs (plX wb b) := (hLB b hpt.2.1.1 hpt.2.1.2).2
        have ho0 := rs_or (x := plX wa a)
        have ho1 := rs_or (x := plX wb b)
        have hA1 := pA_01 (u := (pk wa wb (gA G 27 0 (0)) (gA G 27 0 (1)) h V a b))
        have hB1 := pB_01 (u := (pk wa wb (gA G 27 0 (0)) (gA G 27 0 (1)) h V a b))
        have hm1 := mul01 (x := (gA G 26 0 (a))) (u := pA (pk wa wb (gA G 27 0 (0)) (gA G 27 0 (1)) h V a b)) (v := 0) (by omega) hA1
        have hm2 := mul02 (x := (gA G 26 (1) (b))) (u := pB (pk wa wb (gA G 27 0 (0)) (gA G 27 0 (1)) h V a b)) (by omega) hB1
        refine pw_top (b := (pk wa wb (gA G 27 0 (0)) (gA G 27 0 (1)) h V a b)) (hwp) ?_
        refine pw_istore (ls' := [some (vR 0 (0)), some (vI (a)), some (vI (b)), some (vI (m)), some (vI ((pk wa wb (gA G 27 0 (0)) (gA G 27 0 (1)) h V a b))), none, none]) r_0_keepStarts_41 rfl rfl ?_
        refine pw_iload r_0_keepStarts_43 rfl ?_
        refine pw_const r_0_keepStarts_45 ?_
        refine pw_iand r_0_keepStarts_46 ?_
        refine pw_top (b := pA (pk wa wb (gA G 27 0 (0)) (gA G 27 0 (1)) h V a b)) (hub.1) ?_
        refine pw_istore (ls' := [some (vR 0 (0)), some (vI (a)), some (vI (b)), some (vI (m)), some (vI ((pk wa wb (gA G 27 0 (0)) (gA G 27 0 (1)) h V a b))), some (vI (pA (pk wa wb (gA G 27 0 (0)) (gA G 27 0 (1)) h V a b))), none]) r_0_keepStarts_47 rfl rfl ?_
        refine pw_iload r_0_keepStarts_49 rfl ?_
        refine pw_const r_0_keepStarts_51 ?_
        refine pw_ishr r_0_keepStarts_52 ?_
        refine pw_top (b := pB (pk wa wb (gA G 27 0 (0)) (gA G 27 0 (1)) h V a b)) (hub.2) ?_
        refine pw_istore (ls' := [some (vR 0 (0)), some (vI (a)), some (vI (b)), some (vI (m)), some (vI ((pk wa wb (gA G 27 0 (0)) (gA G 27 0 (1)) h V a b))), some (vI (pA (pk wa wb (gA G 27 0 (0)) (gA G 27 0 (1)) h V a b))), some (vI (pB (pk wa wb (gA G 27 0 (0)) (gA G 27 0 (1)) h V a b)))]) r_0_keepStarts_53 rfl rfl ?_
        refine pw_aload r_0_keepStarts_55 rfl ?_
        refine pw_getR r_0_keepStarts_56 fs_0_7 (by decide) ?_
        refine pw_iload r_0_keepStarts_59 rfl ?_
        refine pw_aload r_0_keepStarts_60 rfl ?_
        refine pw_getR r_0_keepStarts_61 fs_0_3 (by decide) ?_
        refine pw_const r_0_keepStarts_64 ?_
        refine pw_aaldS r_0_keepStarts_65 sh25 (by decide) (by decide) aS25 rw26 (by omega) (by omega) ?_
        refine pw_iload r_0_keepStarts_66 rfl ?_
        refine pw_ialdv (v := gA G 26 (0) (a)) r_0_keepStarts_67 sh26 (by omega) (by omega) (by first | rfl | simp [gF_sF, gF_sA, gF_uA, gF_sD, gA_sF, gA_sA, gA_uA, gA_sD, gD_sF, gD_sA, gD_uA, gD_sD]) ?_
        refine pw_iload r_0_keepStarts_68 rfl ?_
        refine pw_imul r_0_keepStarts_70 (by omega) ?_
        refine pw_const r_0_keepStarts_71 ?_
        refine pw_aload r_0_keepStarts_72 rfl ?_
        refine pw_getR r_0_keepStarts_73 fs_0_3 (by decide) ?_
        refine pw_const r_0_keepStarts_76 ?_
        refine pw_aaldS r_0_keepStarts_77 sh25 (by decide) (by decide) aS25 rw26 (by omega) (by omega) ?_
        refine pw_iload r_0_keepStarts_78 rfl ?_
        refine pw_ialdv (v := gA G 26 (1) (b)) r_0_keepStarts_79 sh26 (by omega) (by omega) (by first | rfl | simp [gF_sF, gF_sA, gF_uA, gF_sD, gA_sF, gA_sA, gA_uA, gA_sD, gD_sF, gD_sA, gD_uA, gD_sD]) ?_
        refine pw_imul r_0_keepStarts_80 (by omega) ?_
        refine pw_iload r_0_keepStarts_81 rfl ?_
        refine pw_imul r_0_keepStarts_83 (by omega) ?_
        refine pw_iadd r_0_keepStarts_84 (by omega) ?_
        refine pw_iast r_0_keepStarts_85 sh29 (by omega) (by omega) ?_
        refine pw_iload r_0_keepStarts_86 rfl ?_
        refine pw_iload r_0_keepStarts_87 rfl ?_
        refine pw_iadd r_0_keepStarts_89 (by omega) ?_
        refine pw_istore (ls' := [some (vR 0 (0)), some (vI ((a + (pA (pk wa wb (gA G 27 0 (0)) (gA G 27 0 (1)) h V a b))))), some (vI (b)), some (vI (m)), some (vI ((pk wa wb (gA G 27 0 (0)) (gA G 27 0 (1)) h V a b))), some (vI (pA (pk wa wb (gA G 27 0 (0)) (gA G 27 0 (1)) h V a b))), some (vI (pB (pk wa wb (gA G 27 0 (0)) (gA G 27 0 (1)) h V a b)))]) r_0_keepStarts_90 rfl rfl ?_
        refine pw_iload r_0_keepStarts_91 rfl ?_
        refine pw_iload r_0_keepStarts_92 rfl ?_
        refine pw_iadd r_0_keepStarts_94 (by omega) ?_
        refine pw_istore (ls' := [some (vR 0 (0)), some (vI ((a + (pA (pk wa wb (gA G 27 0 (0)) (gA G 27 0 (1)) h V a b))))), some (vI ((b + (pB (pk wa wb (gA G 27 0 (0)) (gA G 27 0 (1)) h V a b))))), some (vI (m)), some (vI ((pk wa wb (gA G 27 0 (0)) (gA G 27 0 (1)) h V a b))), some (vI (pA (pk wa wb (gA G 27 0 (0)) (gA G 27 0 (1)) h V a b))), some (vI (pB (pk wa wb (gA G 27 0 (0)) (gA G 27 0 (1)) h V a b)))]) r_0_keepStarts_95 rfl rfl ?_
        refine pw_iinc (b := 0) (ls' := [some (vR 0 (0)), some (vI ((a + (pA (pk wa wb (gA G 27 0 (0)) (gA G 27 0 (1)) h V a b))))), some (vI ((b + (pB (pk wa wb (gA G 27 0 (0)) (gA G 27 0 (1)) h V a b))))), some (vI ((m + 1))), some (vI ((pk wa wb (gA G 27 0 (0)) (gA G 27 0 (1)) h V a b))), some (vI (pA (pk wa wb (gA G 27 0 (0)) (gA G 27 0 (1)) h V a b))), some (vI (pB (pk wa wb (gA G 27 0 (0)) (gA G 27 0 (1)) h V a b)))]) r_0_keepStarts_96 rfl rfl (by omega) rfl ?_
        refine pw_goto r_0_keepStarts_99 ?_
        refine pw_weakL (ls' := [some (vR 0 (0)), some (vI ((a + (pA (pk wa wb (gA G 27 0 (0)) (gA G 27 0 (1)) h V a b))))), some (vI ((b + (pB (pk wa wb (gA G 27 0 (0)) (gA G 27 0 (1)) h V a b))))), some (vI ((m + 1))), none, none, none]) (⟨rfl, ⟨rfl, ⟨rfl, ⟨rfl, trivial⟩⟩⟩⟩) ?_
        refine pw_eqG (G' := uA G 29 (0) ((upA st m ((((gA G 26 0 (a)) * (pA (pk wa wb (gA G 27 0 (0)) (gA G 27 0 (1)) h V a b))) + ((2 * (gA G 26 (1) (b))) * (pB (pk wa wb (gA G 27 0 (0)) (gA G 27 0 (1)) h V a b)))))))) (by rw [sA_uA]) ?_
        exact ih6 ((m + 1)) ((a + (pA (pk wa wb (gA G 27 0 (0)) (gA G 27 0 (1)) h V a b)))) ((b + (pB (pk wa wb (gA G 27 0 (0)) (gA G 27 0 (1)) h V a b)))) ((upA st m ((((gA G 26 0 (a)) * (pA (pk wa wb (gA G 27 0 (0)) (gA G 27 0 (1)) h V a b))) + ((2 * (gA G 26 (1) (b))) * (pB (pk wa wb (gA G 27 0 (0)) (gA G 27 0 (1)) h V a b))))))) (by first | assumption | omega) (hpn.1.symm) (hpn.2.symm) (fun j j0 j1 => by by_cases e : j = m; (rw [e, upA_same, ← hpa, ← hpb, hr0, hr1]; rfl); (rw [upA_ne e]; exact hst j j0 (by omega))) (by omega)
  refine pw_eqG (G' := uA G 29 (0) ((gA G 29 0))) ((uA_own _ _ _).symm) ?_
  exact L6 _ (0) (0) (0) ((gA G 29 0)) (by first | assumption | omega) (rfl) (rfl) (fun j a b => by omega) (Nat.lt_succ_self _)

def LOF (w : Int → Int) (T : Int) (f g : Int → Int) : Prop := ∀ p, 0 ≤ p → p ≤ T → f p = plK w p - ps (plX w p) ∧ g p = rs (plX w p)
def LOI (w : Int → Int) (j t : Int) (f g : Int → Int) : Prop := plK w t = j ∧ (∀ p, 0 ≤ p → p < t → plX w p = 0 → plK w p < j) ∧ (∀ p, 0 ≤ p → p ≤ t → (0 ≤ plK w p ∧ plK w p ≤ j) ∧ 0 ≤ plX w p ∧ plX w p ≤ 8) ∧ LOF w t f g
theorem ps_or {x : Int} (h : 0 ≤ x) : (x = 0 ∧ ps x = 0) ∨ (0 < x ∧ ps x = 1) := by
  unfold ps
  by_cases e : 0 < x
  · rw [if_pos e]; exact Or.inr ⟨e, rfl⟩
  · rw [if_neg e]; exact Or.inl ⟨by omega, rfl⟩
theorem rs_or {x : Int} : (x = 0 ∧ rs x = 1) ∨ (x ≠ 0 ∧ rs x = 0) := by
  unfold rs
  by_cases e : x = 0
  · rw [if_pos e]; exact Or.inl ⟨e, rfl⟩
  · rw [if_neg e]; exact Or.inr ⟨e, rfl⟩
section LO
variable {w f g : Int → Int} {j t n : Int}
theorem lo_0 (hf : f 0 = 0) (hg : g 0 = 1) : LOI w 0 0 f g ∧ plX w 0 = 0 := by
  refine ⟨⟨pl_0.1, fun p a b => absurd b (by omega), fun p a b => ?_, fun p a b => ?_⟩, pl_0.2⟩
  · have e : p = 0 := by omega
    rw [e, pl_0.1, pl_0.2]; decide
  · have e : p = 0 := by omega
    rw [e, pl_0.1, pl_0.2, hf, hg]; decide
theorem lo_s {j1 x1 v u : Int} (hL : LOI w j t f g) (ht : 0 ≤ t) (hk : plK w (t + 1) = j1) (hx : plX w (t + 1) = x1) (hx2 : 0 ≤ x1 ∧ x1 ≤ 8) (h0 : 0 ≤ j) (hj : j ≤ j1) (hj2 : plX w t = 0 → j < j1) (hv : v = j1 - ps x1) (hu : u = rs x1) : LOI w j1 (t + 1) (upA f (t + 1) v) (upA g (t + 1) u) := by
  refine ⟨hk, fun p a b c => ?_, fun p a b => ?_, fun p a b => ?_⟩
  · by_cases e : p = t
    · rw [e] at c ⊢
      rw [hL.1]; exact hj2 c
    · have := hL.2.1 p a (by omega) c
      omega
  · by_cases e : p = t + 1
    · rw [e, hk, hx]
      exact ⟨⟨by omega, Int.le_refl _⟩, hx2⟩
    · have := hL.2.2.1 p a (by omega)
      exact ⟨⟨this.1.1, by omega⟩, this.2⟩
  · by_cases e : p = t + 1
    · rw [e, upA_same, upA_same, hk, hx]
      exact ⟨hv, hu⟩
    · rw [upA_ne e, upA_ne e]
      exact hL.2.2.2 p a (by omega)
theorem lo_end (hL : LOI w n t f g) (hx : plX w t = 0) (ht : 0 ≤ t ∧ t ≤ 90) : RWy n w t := ⟨ht, ⟨hL.1, hx⟩, hL.2.1, hL.2.2.1⟩
theorem lo_go {k m v u : Int} (hL : (m = 1 ∧ LOI w k t f g ∧ plX w t = 0) ∨ (2 ≤ m ∧ LOI w (k + 1) t f g ∧ plX w t = w k - m + 1)) (ht : 0 ≤ t) (hk : 0 ≤ k) (hm : 1 ≤ m ∧ m ≤ w k) (hw : w k ≤ 9) (hv : v = k + 1 - ps (w k - m)) (hu : u = rs (w k - m)) : LOI w (k + 1) (t + 1) (upA f (t + 1) v) (upA g (t + 1) u) ∧ plX w (t + 1) = w k - (m + 1) + 1 := by
  rcases hL with ⟨h1, h2, h3⟩ | ⟨h1, h2, h3⟩
  · have p := pl_r (w := w) ht h3
    have e := h2.1
    rw [e] at p
    exact ⟨lo_s h2 ht p.1 (show plX w (t + 1) = w k - m by omega) (by omega) hk (by omega) (fun _ => by omega) hv hu, by omega⟩
  · have p := pl_w (w := w) ht (by omega)
    have e := h2.1
    rw [e] at p
    exact ⟨lo_s h2 ht p.1 (show plX w (t + 1) = w k - m by omega) (by omega) (by omega) (by omega) (fun z => by omega) hv hu, by omega⟩
end LO
def tvF (f : Int → Int) (x y : Int) : Int := f (x * 91 + y)
def belP (wa wb : Int → Int) (TA TB h : Int) (V : Int → Int → Int) (a b : Int) : Prop := ∀ x y, 0 ≤ x → x ≤ TA → 0 ≤ y → y ≤ TB → (a < x ∨ (x = a ∧ b < y)) → belE wa wb TA TB h V x y ∧ belL TA TB V x y
section BP
variable {wa wb : Int → Int} {TA TB h : Int} {V : Int → Int → Int} {a b : Int} {f : Int → Int}
theorem bp_0 : belP wa wb TA TB h V TA TB := fun x y _ x1 _ y1 z => by omega
theorem bp_row (hP : belP wa wb TA TB h V a (-1)) : belP wa wb TA TB h V (a + (-1)) TB := fun x y x0 x1 y0 y1 z => hP x y x0 x1 y0 y1 (by omega)
theorem bp_all (hP : belP wa wb TA TB h V (-1) TB) : BEL wa wb TA TB h V := fun x y x0 x1 y0 y1 => hP x y x0 x1 y0 y1 (by omega)
theorem vB_in {sa sb : Int} (hP : belP wa wb TA TB h V a b) (ha : 0 ≤ a) (hb : 0 ≤ b) (hs : 0 ≤ sa ∧ 0 ≤ sb) (h1 : 1 ≤ sa + sb) (hT : TA ≤ 90 ∧ TB ≤ 90) : 0 ≤ vB wa wb TA TB h V a b sa sb ∧ vB wa wb TA TB h V a b sa sb ≤ 1000000000 := by
  have := vB_L (wa := wa) (wb := wb) (h := h) (V := V) (sa := sa) (sb := sb) ha hb hs (fun x y x0 x1 y0 y1 e1 e2 => (hP x y x0 x1 y0 y1 (by omega)).2)
  omega
theorem bel_put {v : Int} (hP : belP wa wb TA TB h (tvF f) a b) (ha : 0 ≤ a ∧ a ≤ TA) (hb : 0 ≤ b ∧ b ≤ TB) (hT : TA ≤ 90 ∧ TB ≤ 90) (hv : (a = TA ∧ b = TB ∧ v = 0) ∨ (¬ (a = TA ∧ b = TB) ∧ v = min 1000000000 (1 + min (vB wa wb TA TB h (tvF f) a b 1 1) (min (vB wa wb TA TB h (tvF f) a b 1 0) (vB wa wb TA TB h (tvF f) a b 0 1))))) : belP wa wb TA TB h (tvF (upA f (a * 91 + b) v)) a (b + (-1)) := by
  have hag : ∀ x y, 0 ≤ x → x ≤ TA → 0 ≤ y → y ≤ TB → (a < x ∨ (x = a ∧ b < y)) → tvF (upA f (a * 91 + b) v) x y = tvF f x y := fun x y x0 x1 y0 y1 z => upA_ne (by omega)
  have hvg : ∀ x y sa sb, 0 ≤ x → 0 ≤ y → 0 ≤ sa → 0 ≤ sb → (a < x + sa ∨ (x + sa = a ∧ b < y + sb)) → vB wa wb TA TB h (tvF (upA f (a * 91 + b) v)) x y sa sb = vB wa wb TA TB h (tvF f) x y sa sb := fun x y sa sb x0 y0 s0 s1 z => vB_congr (fun e => hag _ _ (by omega) e.2.2.1 (by omega) e.2.2.2.1 z)
  intro x y x0 x1 y0 y1 z
  by_cases e : x = a ∧ y = b
  · rw [e.1, e.2]
    have e0 : tvF (upA f (a * 91 + b) v) a b = v := upA_same _ _ _
    have b11 := vB_L (wa := wa) (wb := wb) (h := h) (V := tvF f) (sa := 1) (sb := 1) ha.1 hb.1 (by decide) (fun x y x0 x1 y0 y1 e1 e2 => (hP x y x0 x1 y0 y1 (by omega)).2)
    have b10 := vB_L (wa := wa) (wb := wb) (h := h) (V := tvF f) (sa := 1) (sb := 0) ha.1 hb.1 (by decide) (fun x y x0 x1 y0 y1 e1 e2 => (hP x y x0 x1 y0 y1 (by omega)).2)
    have b01 := vB_L (wa := wa) (wb := wb) (h := h) (V := tvF f) (sa := 0) (sb := 1) ha.1 hb.1 (by decide) (fun x y x0 x1 y0 y1 e1 e2 => (hP x y x0 x1 y0 y1 (by omega)).2)
    unfold belE belL
    rw [e0, hvg a b 1 1 ha.1 hb.1 (by decide) (by decide) (by omega), hvg a b 1 0 ha.1 hb.1 (by decide) (by decide) (by omega), hvg a b 0 1 ha.1 hb.1 (by decide) (by decide) (by omega)]
    exact ⟨hv, by omega⟩
  · have za : a < x ∨ (x = a ∧ b < y) := by omega
    have ho := hP x y x0 x1 y0 y1 za
    unfold belE belL at ho ⊢
    rw [hag x y x0 x1 y0 y1 za, hvg x y 1 1 x0 y0 (by decide) (by decide) (by omega), hvg x y 1 0 x0 y0 (by decide) (by decide) (by omega), hvg x y 0 1 x0 y0 (by decide) (by decide) (by omega)]
    exact ho
theorem vw_of {o0 o1 r0 r1 tb : Int → Int} {sa sb : Int} (hA : LOF wa TA o0 r0) (hB : LOF wb TB o1 r1) (ha : 0 ≤ a ∧ a ≤ TA) (hb : 0 ≤ b ∧ b ≤ TB) (hs : 0 ≤ sa ∧ 0 ≤ sb) (ht : okB wa wb TA TB h a b sa sb → tb ((a + sa) * 91 + (b + sb)) = V (a + sa) (b + sb)) :
    (((sa = 0 → r0 a ≠ 0) ∧ (sb = 0 → r1 b ≠ 0) ∧ a + sa ≤ TA ∧ b + sb ≤ TB ∧ -h ≤ o0 (a + sa) - o1 (b + sb) ∧ o0 (a + sa) - o1 (b + sb) ≤ h) ∧ vB wa wb TA TB h V a b sa sb = tb ((a + sa) * 91 + (b + sb))) ∨ (¬ ((sa = 0 → r0 a ≠ 0) ∧ (sb = 0 → r1 b ≠ 0) ∧ a + sa ≤ TA ∧ b + sb ≤ TB ∧ -h ≤ o0 (a + sa) - o1 (b + sb) ∧ o0 (a + sa) - o1 (b + sb) ≤ h) ∧ vB wa wb TA TB h V a b sa sb = 1000000000) := by
  have hi : ((sa = 0 → r0 a ≠ 0) ∧ (sb = 0 → r1 b ≠ 0) ∧ a + sa ≤ TA ∧ b + sb ≤ TB ∧ -h ≤ o0 (a + sa) - o1 (b + sb) ∧ o0 (a + sa) - o1 (b + sb) ≤ h) ↔ okB wa wb TA TB h a b sa sb := by
    have q0 : r0 a ≠ 0 ↔ plX wa a = 0 := by
      rw [(hA a ha.1 ha.2).2]
      have := rs_or (x := plX wa a)
      omega
    have q1 : r1 b ≠ 0 ↔ plX wb b = 0 := by
      rw [(hB b hb.1 hb.2).2]
      have := rs_or (x := plX wb b)
      omega
    unfold okB
    rw [q0, q1]
    constructor
    · intro z
      have u0 := (hA (a + sa) (by omega) z.2.2.1).1
      have u1 := (hB (b + sb) (by omega) z.2.2.2.1).1
      refine ⟨z.1, z.2.1, z.2.2.1, z.2.2.2.1, ?_⟩
      have z5 := z.2.2.2.2
      omega
    · intro z
      have u0 := (hA (a + sa) (by omega) z.2.2.1).1
      have u1 := (hB (b + sb) (by omega) z.2.2.2.1).1
      refine ⟨z.1, z.2.1, z.2.2.1, z.2.2.2.1, ?_⟩
      have z5 := z.2.2.2.2
      omega
  by_cases e : okB wa wb TA TB h a b sa sb
  · exact Or.inl ⟨hi.mpr e, by rw [vB_t e]; exact (ht e).symm⟩
  · exact Or.inr ⟨fun z => e (hi.mp z), vB_f e⟩
theorem pt_n {m : Int} (hm : 0 ≤ m) (h1 : a = (ptI wa wb TA TB h V m).1) (h2 : b = (ptI wa wb TA TB h V m).2) : (ptI wa wb TA TB h V (m + 1)).1 = a + pA (pk wa wb TA TB h V a b) ∧ (ptI wa wb TA TB h V (m + 1)).2 = b + pB (pk wa wb TA TB h V a b) := by
  rw [pt_s hm, h1, h2]
  exact ⟨rfl, rfl⟩
theorem pt_at {m : Int} (hB : BEL wa wb TA TB h V) (hT : (0 ≤ TA ∧ TA ≤ 90) ∧ 0 ≤ TB ∧ TB ≤ 90) (hf : V 0 0 ≠ 1000000000) (hm : 0 ≤ m ∧ m ≤ V 0 0) (h1 : a = (ptI wa wb TA TB h V m).1) (h2 : b = (ptI wa wb TA TB h V m).2) : (0 ≤ a ∧ a ≤ TA) ∧ (0 ≤ b ∧ b ≤ TB) ∧ V a b = V 0 0 - m := by
  have := pt_in hB hT hf m.toNat (by omega)
  rw [Int.toNat_of_nonneg hm.1, ← h1, ← h2] at this
  exact this
theorem mul01 {x u v : Int} (hx : x = 0 ∨ x = 1) (hu : u = 0 ∨ u = 1) : 0 ≤ x * u ∧ x * u ≤ 1 := by
  rcases hx with z | z <;> rcases hu with y | y <;> rw [z, y] <;> decide
theorem mul02 {x u : Int} (hx : x = 0 ∨ x = 1) (hu : u = 0 ∨ u = 1) : 0 ≤ 2 * x * u ∧ 2 * x * u ≤ 2 := by
  rcases hx with z | z <;> rcases hu with y | y <;> rw [z, y] <;> decide
theorem pA_01 {u : Int} : pA u = 0 ∨ pA u = 1 := by unfold pA; split <;> omega
theorem pB_01 {u : Int} : pB u = 0 ∨ pB u = 1 := by unfold pB; split <;> omega
theorem pA_bit {u : Int} (hu : u = 3 ∨ u = 1 ∨ u = 2) : pAnd u 1 = pA u ∧ pShr u 1 = pB u := by
  rcases hu with z | z | z <;> rw [z] <;> decide +kernel
theorem bel_0 (hB : BEL wa wb TA TB h V) (hT : (0 ≤ TA ∧ TA ≤ 90) ∧ 0 ≤ TB ∧ TB ≤ 90) : V 0 0 = 1000000000 ∨ (0 ≤ V 0 0 ∧ V 0 0 ≤ 180) := by
  have h1 := (hB 0 0 (Int.le_refl 0) hT.1.1 (Int.le_refl 0) hT.2.1).2
  unfold belL at h1
  omega
end BP

theorem wd_m0_69 : Cond.methodLink "NameRolls$Bridge" 69 M_X0_firstWalking.1 ∈ UW := UW6_at 105 (by decide +kernel) rfl
theorem wd_s0_firstWalking : Cond.selects M_X0_firstWalking.1.cls M_X0_firstWalking.1 M_X0_firstWalking.1 ∈ UW := UWp_at 48 (by decide +kernel) rfl
theorem r_0_layOut_0 : RC M_X0_layOut 0 0 1 := ⟨⟨by decide, by decide⟩, Or.inl ⟨by decide +kernel, rfl⟩⟩
theorem r_0_layOut_1 : RS M_X0_layOut 1 2 2 := ⟨by decide, Or.inl ⟨2, by decide +kernel, rfl, rfl⟩⟩
theorem r_0_layOut_2 : RA M_X0_layOut 2 0 3 := Or.inl ⟨0, by decide +kernel, rfl, rfl⟩
theorem r_0_layOut_3 : RG M_X0_layOut 3 0 2 6 := ⟨20, _, by decide +kernel, rfl, by decide, wd_f0_20, rfl, rfl⟩
theorem r_0_layOut_6 : RL M_X0_layOut 6 1 7 := Or.inl ⟨1, by decide +kernel, rfl, rfl⟩
theorem r_0_layOut_7 : RW M_X0_layOut 7 .aaload 8 1 := ⟨by decide +kernel, rfl⟩
theorem r_0_layOut_8 : RC M_X0_layOut 8 0 9 := ⟨⟨by decide, by decide⟩, Or.inl ⟨by decide +kernel, rfl⟩⟩
theorem r_0_layOut_9 : RC M_X0_layOut 9 0 10 := ⟨⟨by decide, by decide⟩, Or.inl ⟨by decide +kernel, rfl⟩⟩
theorem r_0_layOut_10 : RW M_X0_layOut 10 .iastore 11 1 := ⟨by decide +kernel, rfl⟩
theorem r_0_layOut_11 : RA M_X0_layOut 11 0 12 := Or.inl ⟨0, by decide +kernel, rfl, rfl⟩
theorem r_0_layOut_12 : RG M_X0_layOut 12 0 3 15 := ⟨23, _, by decide +kernel, rfl, by decide, wd_f0_23, rfl, rfl⟩
theorem r_0_layOut_15 : RL M_X0_layOut 15 1 16 := Or.inl ⟨1, by decide +kernel, rfl, rfl⟩
theorem r_0_layOut_16 : RW M_X0_layOut 16 .aaload 17 1 := ⟨by decide +kernel, rfl⟩
theorem r_0_layOut_17 : RC M_X0_layOut 17 0 18 := ⟨⟨by decide, by decide⟩, Or.inl ⟨by decide +kernel, rfl⟩⟩
theorem r_0_layOut_18 : RC M_X0_layOut 18 1 19 := ⟨⟨by decide, by decide⟩, Or.inl ⟨by decide +kernel, rfl⟩⟩
theorem r_0_layOut_19 : RW M_X0_layOut 19 .iastore 20 1 := ⟨by decide +kernel, rfl⟩
theorem r_0_layOut_20 : RC M_X0_layOut 20 0 21 := ⟨⟨by decide, by decide⟩, Or.inl ⟨by decide +kernel, rfl⟩⟩
theorem r_0_layOut_21 : RS M_X0_layOut 21 3 22 := ⟨by decide, Or.inl ⟨3, by decide +kernel, rfl, rfl⟩⟩
theorem r_0_layOut_22 : RL M_X0_layOut 22 3 23 := Or.inl ⟨3, by decide +kernel, rfl, rfl⟩
theorem r_0_layOut_23 : RA M_X0_layOut 23 0 24 := Or.inl ⟨0, by decide +kernel, rfl, rfl⟩
theorem r_0_layOut_24 : RG M_X0_layOut 24 0 1 27 := ⟨16, _, by decide +kernel, rfl, by decide, wd_f0_16, rfl, rfl⟩
theorem r_0_layOut_27 : RL M_X0_layOut 27 1 28 := Or.inl ⟨1, by decide +kernel, rfl, rfl⟩
theorem r_0_layOut_28 : RW M_X0_layOut 28 .iaload 29 1 := ⟨by decide +kernel, rfl⟩
theorem r_0_layOut_29 : RB M_X0_layOut 29 (.if_icmp .ge) 127 32 := ⟨98, by decide +kernel, rfl, rfl⟩
theorem r_0_layOut_127 : RA M_X0_layOut 127 0 128 := Or.inl ⟨0, by decide +kernel, rfl, rfl⟩
theorem r_0_layOut_128 : RG M_X0_layOut 128 0 4 131 := ⟨26, _, by decide +kernel, rfl, by decide, wd_f0_26, rfl, rfl⟩
theorem r_0_layOut_131 : RL M_X0_layOut 131 1 132 := Or.inl ⟨1, by decide +kernel, rfl, rfl⟩
theorem r_0_layOut_132 : RL M_X0_layOut 132 2 133 := Or.inl ⟨2, by decide +kernel, rfl, rfl⟩
theorem r_0_layOut_133 : RW M_X0_layOut 133 .iastore 134 1 := ⟨by decide +kernel, rfl⟩
theorem r_0_layOut_134 : RW M_X0_layOut 134 .return_ 135 1 := ⟨by decide +kernel, rfl⟩
theorem r_0_layOut_32 : RC M_X0_layOut 32 1 33 := ⟨⟨by decide, by decide⟩, Or.inl ⟨by decide +kernel, rfl⟩⟩
theorem r_0_layOut_33 : RS M_X0_layOut 33 4 35 := ⟨by decide, Or.inr ⟨by decide +kernel, rfl⟩⟩
theorem r_0_layOut_35 : RL M_X0_layOut 35 4 37 := Or.inr ⟨by decide +kernel, rfl⟩
theorem r_0_layOut_37 : RA M_X0_layOut 37 0 38 := Or.inl ⟨0, by decide +kernel, rfl, rfl⟩
theorem r_0_layOut_38 : RG M_X0_layOut 38 0 0 41 := ⟨13, _, by decide +kernel, rfl, by decide, wd_f0_13, rfl, rfl⟩
theorem r_0_layOut_41 : RL M_X0_layOut 41 1 42 := Or.inl ⟨1, by decide +kernel, rfl, rfl⟩
theorem r_0_layOut_42 : RW M_X0_layOut 42 .aaload 43 1 := ⟨by decide +kernel, rfl⟩
theorem r_0_layOut_43 : RL M_X0_layOut 43 3 44 := Or.inl ⟨3, by decide +kernel, rfl, rfl⟩
theorem r_0_layOut_44 : RW M_X0_layOut 44 .iaload 45 1 := ⟨by decide +kernel, rfl⟩
theorem r_0_layOut_45 : RB M_X0_layOut 45 (.if_icmp .gt) 121 48 := ⟨76, by decide +kernel, rfl, rfl⟩
theorem r_0_layOut_121 : RI M_X0_layOut 121 3 1 124 := ⟨by decide, by decide +kernel, rfl⟩
theorem r_0_layOut_124 : RB M_X0_layOut 124 .goto 22 127 := ⟨(-102), by decide +kernel, rfl, rfl⟩
theorem r_0_layOut_48 : RL M_X0_layOut 48 2 49 := Or.inl ⟨2, by decide +kernel, rfl, rfl⟩
theorem r_0_layOut_49 : RC M_X0_layOut 49 90 51 := ⟨⟨by decide, by decide⟩, Or.inr (Or.inl ⟨by decide +kernel, by decide, rfl⟩)⟩
theorem r_0_layOut_51 : RB M_X0_layOut 51 (.if_icmp .ge) 121 54 := ⟨70, by decide +kernel, rfl, rfl⟩
theorem r_0_layOut_54 : RL M_X0_layOut 54 4 56 := Or.inr ⟨by decide +kernel, rfl⟩
theorem r_0_layOut_56 : RA M_X0_layOut 56 0 57 := Or.inl ⟨0, by decide +kernel, rfl, rfl⟩
theorem r_0_layOut_57 : RG M_X0_layOut 57 0 0 60 := ⟨13, _, by decide +kernel, rfl, by decide, wd_f0_13, rfl, rfl⟩
theorem r_0_layOut_60 : RL M_X0_layOut 60 1 61 := Or.inl ⟨1, by decide +kernel, rfl, rfl⟩
theorem r_0_layOut_61 : RW M_X0_layOut 61 .aaload 62 1 := ⟨by decide +kernel, rfl⟩
theorem r_0_layOut_62 : RL M_X0_layOut 62 3 63 := Or.inl ⟨3, by decide +kernel, rfl, rfl⟩
theorem r_0_layOut_63 : RW M_X0_layOut 63 .iaload 64 1 := ⟨by decide +kernel, rfl⟩
theorem r_0_layOut_64 : RB M_X0_layOut 64 (.if_icmp .ne) 71 67 := ⟨7, by decide +kernel, rfl, rfl⟩
theorem r_0_layOut_71 : RC M_X0_layOut 71 0 72 := ⟨⟨by decide, by decide⟩, Or.inl ⟨by decide +kernel, rfl⟩⟩
theorem r_0_layOut_72 : RS M_X0_layOut 72 5 74 := ⟨by decide, Or.inr ⟨by decide +kernel, rfl⟩⟩
theorem r_0_layOut_74 : RI M_X0_layOut 74 2 1 77 := ⟨by decide, by decide +kernel, rfl⟩
theorem r_0_layOut_77 : RA M_X0_layOut 77 0 78 := Or.inl ⟨0, by decide +kernel, rfl, rfl⟩
theorem r_0_layOut_78 : RG M_X0_layOut 78 0 2 81 := ⟨20, _, by decide +kernel, rfl, by decide, wd_f0_20, rfl, rfl⟩
theorem r_0_layOut_81 : RL M_X0_layOut 81 1 82 := Or.inl ⟨1, by decide +kernel, rfl, rfl⟩
theorem r_0_layOut_82 : RW M_X0_layOut 82 .aaload 83 1 := ⟨by decide +kernel, rfl⟩
theorem r_0_layOut_83 : RL M_X0_layOut 83 2 84 := Or.inl ⟨2, by decide +kernel, rfl, rfl⟩
theorem r_0_layOut_84 : RL M_X0_layOut 84 5 86 := Or.inr ⟨by decide +kernel, rfl⟩
theorem r_0_layOut_86 : RB M_X0_layOut 86 (.ifCond .eq) 95 89 := ⟨9, by decide +kernel, rfl, rfl⟩
theorem r_0_layOut_95 : RL M_X0_layOut 95 3 96 := Or.inl ⟨3, by decide +kernel, rfl, rfl⟩
theorem r_0_layOut_96 : RW M_X0_layOut 96 .iastore 97 1 := ⟨by decide +kernel, rfl⟩
theorem r_0_layOut_97 : RA M_X0_layOut 97 0 98 := Or.inl ⟨0, by decide +kernel, rfl, rfl⟩
theorem r_0_layOut_98 : RG M_X0_layOut 98 0 3 101 := ⟨23, _, by decide +kernel, rfl, by decide, wd_f0_23, rfl, rfl⟩
theorem r_0_layOut_101 : RL M_X0_layOut 101 1 102 := Or.inl ⟨1, by decide +kernel, rfl, rfl⟩
theorem r_0_layOut_102 : RW M_X0_layOut 102 .aaload 103 1 := ⟨by decide +kernel, rfl⟩
theorem r_0_layOut_103 : RL M_X0_layOut 103 2 104 := Or.inl ⟨2, by decide +kernel, rfl, rfl⟩
theorem r_0_layOut_104 : RL M_X0_layOut 104 5 106 := Or.inr ⟨by decide +kernel, rfl⟩
theorem r_0_layOut_106 : RB M_X0_layOut 106 (.ifCond .eq) 113 109 := ⟨7, by decide +kernel, rfl, rfl⟩
theorem r_0_layOut_113 : RC M_X0_layOut 113 0 114 := ⟨⟨by decide, by decide⟩, Or.inl ⟨by decide +kernel, rfl⟩⟩
theorem r_0_layOut_114 : RW M_X0_layOut 114 .iastore 115 1 := ⟨by decide +kernel, rfl⟩
theorem r_0_layOut_115 : RI M_X0_layOut 115 4 1 118 := ⟨by decide, by decide +kernel, rfl⟩
theorem r_0_layOut_118 : RB M_X0_layOut 118 .goto 35 121 := ⟨(-83), by decide +kernel, rfl, rfl⟩
theorem r_0_layOut_67 : RC M_X0_layOut 67 1 68 := ⟨⟨by decide, by decide⟩, Or.inl ⟨by decide +kernel, rfl⟩⟩
theorem r_0_layOut_68 : RB M_X0_layOut 68 .goto 72 71 := ⟨4, by decide +kernel, rfl, rfl⟩
theorem r_0_layOut_89 : RL M_X0_layOut 89 3 90 := Or.inl ⟨3, by decide +kernel, rfl, rfl⟩
theorem r_0_layOut_90 : RC M_X0_layOut 90 1 91 := ⟨⟨by decide, by decide⟩, Or.inl ⟨by decide +kernel, rfl⟩⟩
theorem r_0_layOut_91 : RW M_X0_layOut 91 .iadd 92 1 := ⟨by decide +kernel, rfl⟩
theorem r_0_layOut_92 : RB M_X0_layOut 92 .goto 96 95 := ⟨4, by decide +kernel, rfl, rfl⟩
theorem r_0_layOut_109 : RC M_X0_layOut 109 1 110 := ⟨⟨by decide, by decide⟩, Or.inl ⟨by decide +kernel, rfl⟩⟩
theorem r_0_layOut_110 : RB M_X0_layOut 110 .goto 114 113 := ⟨4, by decide +kernel, rfl, rfl⟩
theorem r_0_keepStarts_0 : RC M_X0_keepStarts 0 0 1 := ⟨⟨by decide, by decide⟩, Or.inl ⟨by decide +kernel, rfl⟩⟩
theorem r_0_keepStarts_1 : RS M_X0_keepStarts 1 2 2 := ⟨by decide, Or.inl ⟨2, by decide +kernel, rfl, rfl⟩⟩
theorem r_0_keepStarts_2 : RC M_X0_keepStarts 2 0 3 := ⟨⟨by decide, by decide⟩, Or.inl ⟨by decide +kernel, rfl⟩⟩
theorem r_0_keepStarts_3 : RS M_X0_keepStarts 3 3 4 := ⟨by decide, Or.inl ⟨3, by decide +kernel, rfl, rfl⟩⟩
theorem r_0_keepStarts_4 : RC M_X0_keepStarts 4 0 5 := ⟨⟨by decide, by decide⟩, Or.inl ⟨by decide +kernel, rfl⟩⟩
theorem r_0_keepStarts_5 : RS M_X0_keepStarts 5 4 7 := ⟨by decide, Or.inr ⟨by decide +kernel, rfl⟩⟩
theorem r_0_keepStarts_7 : RL M_X0_keepStarts 7 4 9 := Or.inr ⟨by decide +kernel, rfl⟩
theorem r_0_keepStarts_9 : RA M_X0_keepStarts 9 0 10 := Or.inl ⟨0, by decide +kernel, rfl, rfl⟩
theorem r_0_keepStarts_10 : RG M_X0_keepStarts 10 0 7 13 := ⟨48, _, by decide +kernel, rfl, by decide, wd_f0_48, rfl, rfl⟩
theorem r_0_keepStarts_13 : RB M_X0_keepStarts 13 (.if_icmp .ge) 116 16 := ⟨103, by decide +kernel, rfl, rfl⟩
theorem r_0_keepStarts_116 : RW M_X0_keepStarts 116 .return_ 117 1 := ⟨by decide +kernel, rfl⟩
theorem r_0_keepStarts_16 : RL M_X0_keepStarts 16 4 18 := Or.inr ⟨by decide +kernel, rfl⟩
theorem r_0_keepStarts_18 : RA M_X0_keepStarts 18 0 19 := Or.inl ⟨0, by decide +kernel, rfl, rfl⟩
theorem r_0_keepStarts_19 : RG M_X0_keepStarts 19 0 6 22 := ⟨32, _, by decide +kernel, rfl, by decide, wd_f0_32, rfl, rfl⟩
theorem r_0_keepStarts_22 : RW M_X0_keepStarts 22 .arraylength 23 1 := ⟨by decide +kernel, rfl⟩
theorem r_0_keepStarts_23 : RB M_X0_keepStarts 23 (.if_icmp .ge) 116 26 := ⟨93, by decide +kernel, rfl, rfl⟩
theorem r_0_keepStarts_26 : RL M_X0_keepStarts 26 2 27 := Or.inl ⟨2, by decide +kernel, rfl, rfl⟩
theorem r_0_keepStarts_27 : RC M_X0_keepStarts 27 91 29 := ⟨⟨by decide, by decide⟩, Or.inr (Or.inl ⟨by decide +kernel, by decide, rfl⟩)⟩
theorem r_0_keepStarts_29 : RB M_X0_keepStarts 29 (.if_icmp .ge) 116 32 := ⟨87, by decide +kernel, rfl, rfl⟩
theorem r_0_keepStarts_32 : RL M_X0_keepStarts 32 3 33 := Or.inl ⟨3, by decide +kernel, rfl, rfl⟩
theorem r_0_keepStarts_33 : RC M_X0_keepStarts 33 91 35 := ⟨⟨by decide, by decide⟩, Or.inr (Or.inl ⟨by decide +kernel, by decide, rfl⟩)⟩
theorem r_0_keepStarts_35 : RB M_X0_keepStarts 35 (.if_icmp .ge) 116 38 := ⟨81, by decide +kernel, rfl, rfl⟩
theorem r_0_keepStarts_38 : RA M_X0_keepStarts 38 0 39 := Or.inl ⟨0, by decide +kernel, rfl, rfl⟩
theorem r_0_keepStarts_39 : RL M_X0_keepStarts 39 2 40 := Or.inl ⟨2, by decide +kernel, rfl, rfl⟩
theorem r_0_keepStarts_40 : RL M_X0_keepStarts 40 3 41 := Or.inl ⟨3, by decide +kernel, rfl, rfl⟩
theorem r_0_keepStarts_41 : RA M_X0_keepStarts 41 0 42 := Or.inl ⟨0, by decide +kernel, rfl, rfl⟩
theorem r_0_keepStarts_42 : RG M_X0_keepStarts 42 0 7 45 := ⟨48, _, by decide +kernel, rfl, by decide, wd_f0_48, rfl, rfl⟩
theorem r_0_keepStarts_45 : RL M_X0_keepStarts 45 4 47 := Or.inr ⟨by decide +kernel, rfl⟩
theorem r_0_keepStarts_47 : RW M_X0_keepStarts 47 .isub 48 1 := ⟨by decide +kernel, rfl⟩
theorem r_0_keepStarts_48 : RC M_X0_keepStarts 48 1 49 := ⟨⟨by decide, by decide⟩, Or.inl ⟨by decide +kernel, rfl⟩⟩
theorem r_0_keepStarts_49 : RW M_X0_keepStarts 49 .isub 50 1 := ⟨by decide +kernel, rfl⟩
theorem r_0_keepStarts_50 : RL M_X0_keepStarts 50 1 51 := Or.inl ⟨1, by decide +kernel, rfl, rfl⟩
theorem r_0_keepStarts_51 : RKv M_X0_keepStarts M_X0_firstWalking 51 4 0 54 := ⟨69, by decide +kernel, wd_m0_69, ok_M_X0_firstWalking, wd_s0_firstWalking, rfl⟩
theorem r_0_keepStarts_54 : RS M_X0_keepStarts 54 5 56 := ⟨by decide, Or.inr ⟨by decide +kernel, rfl⟩⟩
theorem r_0_keepStarts_56 : RL M_X0_keepStarts 56 5 58 := Or.inr ⟨by decide +kernel, rfl⟩
theorem r_0_keepStarts_58 : RC M_X0_keepStarts 58 1 59 := ⟨⟨by decide, by decide⟩, Or.inl ⟨by decide +kernel, rfl⟩⟩
theorem r_0_keepStarts_59 : RW M_X0_keepStarts 59 .iand 60 1 := ⟨by decide +kernel, rfl⟩
theorem r_0_keepStarts_60 : RS M_X0_keepStarts 60 6 62 := ⟨by decide, Or.inr ⟨by decide +kernel, rfl⟩⟩
theorem r_0_keepStarts_62 : RL M_X0_keepStarts 62 5 64 := Or.inr ⟨by decide +kernel, rfl⟩
theorem r_0_keepStarts_64 : RC M_X0_keepStarts 64 1 65 := ⟨⟨by decide, by decide⟩, Or.inl ⟨by decide +kernel, rfl⟩⟩
theorem r_0_keepStarts_65 : RW M_X0_keepStarts 65 .ishr 66 1 := ⟨by decide +kernel, rfl⟩
theorem r_0_keepStarts_66 : RS M_X0_keepStarts 66 7 68 := ⟨by decide, Or.inr ⟨by decide +kernel, rfl⟩⟩
theorem r_0_keepStarts_68 : RA M_X0_keepStarts 68 0 69 := Or.inl ⟨0, by decide +kernel, rfl, rfl⟩
theorem r_0_keepStarts_69 : RG M_X0_keepStarts 69 0 6 72 := ⟨32, _, by decide +kernel, rfl, by decide, wd_f0_32, rfl, rfl⟩
theorem r_0_keepStarts_72 : RL M_X0_keepStarts 72 4 74 := Or.inr ⟨by decide +kernel, rfl⟩
theorem r_0_keepStarts_74 : RA M_X0_keepStarts 74 0 75 := Or.inl ⟨0, by decide +kernel, rfl, rfl⟩
theorem r_0_keepStarts_75 : RG M_X0_keepStarts 75 0 3 78 := ⟨23, _, by decide +kernel, rfl, by decide, wd_f0_23, rfl, rfl⟩
theorem r_0_keepStarts_78 : RC M_X0_keepStarts 78 0 79 := ⟨⟨by decide, by decide⟩, Or.inl ⟨by decide +kernel, rfl⟩⟩
theorem r_0_keepStarts_79 : RW M_X0_keepStarts 79 .aaload 80 1 := ⟨by decide +kernel, rfl⟩
theorem r_0_keepStarts_80 : RL M_X0_keepStarts 80 2 81 := Or.inl ⟨2, by decide +kernel, rfl, rfl⟩
theorem r_0_keepStarts_81 : RW M_X0_keepStarts 81 .iaload 82 1 := ⟨by decide +kernel, rfl⟩
theorem r_0_keepStarts_82 : RL M_X0_keepStarts 82 6 84 := Or.inr ⟨by decide +kernel, rfl⟩
theorem r_0_keepStarts_84 : RW M_X0_keepStarts 84 .imul 85 1 := ⟨by decide +kernel, rfl⟩
theorem r_0_keepStarts_85 : RC M_X0_keepStarts 85 2 86 := ⟨⟨by decide, by decide⟩, Or.inl ⟨by decide +kernel, rfl⟩⟩
theorem r_0_keepStarts_86 : RA M_X0_keepStarts 86 0 87 := Or.inl ⟨0, by decide +kernel, rfl, rfl⟩
theorem r_0_keepStarts_87 : RG M_X0_keepStarts 87 0 3 90 := ⟨23, _, by decide +kernel, rfl, by decide, wd_f0_23, rfl, rfl⟩
theorem r_0_keepStarts_90 : RC M_X0_keepStarts 90 1 91 := ⟨⟨by decide, by decide⟩, Or.inl ⟨by decide +kernel, rfl⟩⟩
theorem r_0_keepStarts_91 : RW M_X0_keepStarts 91 .aaload 92 1 := ⟨by decide +kernel, rfl⟩
theorem r_0_keepStarts_92 : RL M_X0_keepStarts 92 3 93 := Or.inl ⟨3, by decide +kernel, rfl, rfl⟩
theorem r_0_keepStarts_93 : RW M_X0_keepStarts 93 .iaload 94 1 := ⟨by decide +kernel, rfl⟩
theorem r_0_keepStarts_94 : RW M_X0_keepStarts 94 .imul 95 1 := ⟨by decide +kernel, rfl⟩
theorem r_0_keepStarts_95 : RL M_X0_keepStarts 95 7 97 := Or.inr ⟨by decide +kernel, rfl⟩
theorem r_0_keepStarts_97 : RW M_X0_keepStarts 97 .imul 98 1 := ⟨by decide +kernel, rfl⟩
theorem r_0_keepStarts_98 : RW M_X0_keepStarts 98 .iadd 99 1 := ⟨by decide +kernel, rfl⟩
theorem r_0_keepStarts_99 : RW M_X0_keepStarts 99 .iastore 100 1 := ⟨by decide +kernel, rfl⟩
theorem r_0_keepStarts_100 : RL M_X0_keepStarts 100 2 101 := Or.inl ⟨2, by decide +kernel, rfl, rfl⟩
theorem r_0_keepStarts_101 : RL M_X0_keepStarts 101 6 103 := Or.inr ⟨by decide +kernel, rfl⟩
theorem r_0_keepStarts_103 : RW M_X0_keepStarts 103 .iadd 104 1 := ⟨by decide +kernel, rfl⟩
theorem r_0_keepStarts_104 : RS M_X0_keepStarts 104 2 105 := ⟨by decide, Or.inl ⟨2, by decide +kernel, rfl, rfl⟩⟩
theorem r_0_keepStarts_105 : RL M_X0_keepStarts 105 3 106 := Or.inl ⟨3, by decide +kernel, rfl, rfl⟩
theorem r_0_keepStarts_106 : RL M_X0_keepStarts 106 7 108 := Or.inr ⟨by decide +kernel, rfl⟩
theorem r_0_keepStarts_108 : RW M_X0_keepStarts 108 .iadd 109 1 := ⟨by decide +kernel, rfl⟩
theorem r_0_keepStarts_109 : RS M_X0_keepStarts 109 3 110 := ⟨by decide, Or.inl ⟨3, by decide +kernel, rfl, rfl⟩⟩
theorem r_0_keepStarts_110 : RI M_X0_keepStarts 110 4 1 113 := ⟨by decide, by decide +kernel, rfl⟩
theorem r_0_keepStarts_113 : RB M_X0_keepStarts 113 .goto 7 116 := ⟨(-106), by decide +kernel, rfl, rfl⟩
set_option maxRecDepth 10000 in
theorem sp_X0_layOut {l : Launch} {w : Wo} {d : Nat} {G : PH} {P : Option PV → PH → Prop} {r : Int} (hr : r = 0 ∨ r = 1) (hn : 0 ≤ (gA G 22 0 (r)) ∧ (gA G 22 0 (r)) ≤ 10) (hmin : ∀ i, 0 ≤ i → i < (gA G 22 0 (r)) → 1 ≤ (gA G 21 (r)) i ∧ (gA G 21 (r)) i ≤ 9) (hP : ∀ (T : Int) (f g : Int → Int), RWy (gA G 22 0 (r)) (gA G 21 (r)) T → LOF (gA G 21 (r)) T f g → P none (sA (uA (uA G 24 r f) 26 r g) 27 0 r T)) : PW l w M_X0_layOut (d + 0) 0 [some (vR 0 (0)), some (vI (r)), none, none, none, none] [] G P := by
  refine pw_const r_0_layOut_0 ?_
  refine pw_istore (ls' := [some (vR 0 (0)), some (vI (r)), some (vI (0)), none, none, none]) r_0_layOut_1 rfl rfl ?_
  refine pw_aload r_0_layOut_2 rfl ?_
  refine pw_getR r_0_layOut_3 fs_0_2 (by decide) ?_
  refine pw_iload r_0_layOut_6 rfl ?_
  refine pw_aaldS r_0_layOut_7 sh23 (by decide) (by decide) aS23 rw24 (by omega) (by omega) ?_
  refine pw_const r_0_layOut_8 ?_
  refine pw_const r_0_layOut_9 ?_
  refine pw_iast r_0_layOut_10 sh24 (by omega) (by omega) ?_
  refine pw_aload r_0_layOut_11 rfl ?_
  refine pw_getR r_0_layOut_12 fs_0_3 (by decide) ?_
  refine pw_iload r_0_layOut_15 rfl ?_
  refine pw_aaldS r_0_layOut_16 sh25 (by decide) (by decide) aS25 rw26 (by omega) (by omega) ?_
  refine pw_const r_0_layOut_17 ?_
  refine pw_const r_0_layOut_18 ?_
  refine pw_iast r_0_layOut_19 sh26 (by omega) (by omega) ?_
  refine pw_const r_0_layOut_20 ?_
  refine pw_istore (ls' := [some (vR 0 (0)), some (vI (r)), some (vI (0)), some (vI (0)), none, none]) r_0_layOut_21 rfl rfl ?_
  have L22 : ∀ (nF : Nat) (k t : Int) (f g : Int → Int), (hk : 0 ≤ k ∧ k ≤ (gA G 22 0 (r))) → (ht : 0 ≤ t ∧ t ≤ 9 * k) → (hL : LOI (gA G 21 (r)) k t f g ∧ plX (gA G 21 (r)) t = 0) → ((gA G 22 0 (r)) - k).toNat < nF → PW l w M_X0_layOut (d + 0) 22 [some (vR 0 (0)), some (vI (r)), some (vI (t)), some (vI (k)), none, none] [] (uA (uA G 24 (r) (f)) 26 (r) (g)) P := by
    intro nF
    induction nF with
    | zero => intro _ _ _ _ _ _ _ hM; exact absurd hM (Nat.not_lt_zero _)
    | succ nF ih22 =>
      intro k t f g hk ht hL hM22
      refine pw_iload r_0_layOut_22 rfl ?_
      refine pw_aload r_0_layOut_23 rfl ?_
      refine pw_getR r_0_layOut_24 fs_0_1 (by decide) ?_
      refine pw_iload r_0_layOut_27 rfl ?_
      refine pw_ialdv (v := gA G 22 (0) (r)) r_0_layOut_28 sh22 (by omega) (by omega) (by first | rfl | simp [gF_sF, gF_sA, gF_uA, gF_sD, gA_sF, gA_sA, gA_uA, gA_sD, gD_sF, gD_sA, gD_uA, gD_sD]) ?_
      refine pw_icmp_ge r_0_layOut_29 (fun h29 => ?_) (fun h29 => ?_)
      · skip
        refine pw_aload r_0_layOut_127 rfl ?_
        refine pw_getR r_0_layOut_128 fs_0_4 (by decide) ?_
        refine pw_iload r_0_layOut_131 rfl ?_
        refine pw_iload r_0_layOut_132 rfl ?_
        refine pw_iast r_0_layOut_133 sh27 (by omega) (by omega) ?_
        refine pw_vret r_0_layOut_134 rfl (Nat.le_refl _) ⟨rfl, ?_⟩
        have ek : k = (gA G 22 0 (r)) := by omega
        rw [ek] at hL
        exact hP t f g (lo_end hL.1 hL.2 (by omega)) hL.1.2.2.2
      · skip
        have hwk := hmin k hk.1 (by omega)
        refine pw_const r_0_layOut_32 ?_
        refine pw_istore (ls' := [some (vR 0 (0)), some (vI (r)), some (vI (t)), some (vI (k)), some (vI (1)), none]) r_0_layOut_33 rfl rfl ?_
        have L35 : ∀ (nF : Nat) (m t2 : Int) (f2 g2 : Int → Int), (hm : 1 ≤ m ∧ m ≤ (gA G 21 (r)) k + 1) → (ht2 : 0 ≤ t2 ∧ t2 ≤ 9 * k + m - 1) → (hL2 : (m = 1 ∧ LOI (gA G 21 (r)) k t2 f2 g2 ∧ plX (gA G 21 (r)) t2 = 0) ∨ (2 ≤ m ∧ LOI (gA G 21 (r)) (k + 1) t2 f2 g2 ∧ plX (gA G 21 (r)) t2 = (gA G 21 (r)) k - m + 1)) → ((gA G 21 (r)) k + 1 - m).toNat < nF → PW l w M_X0_layOut (d + 0) 35 [some (vR 0 (0)), some (vI (r)), some (vI (t2)), some (vI (k)), some (vI (m)), none] [] (uA (uA G 24 (r) (f2)) 26 (r) (g2)) P := by
          intro nF
          induction nF with
          | zero => intro _ _ _ _ _ _ _ hM; exact absurd hM (Nat.not_lt_zero _)
          | succ nF ih35 =>
            intro m t2 f2 g2 hm ht2 hL2 hM35
            refine pw_iload r_0_layOut_35 rfl ?_
            refine pw_aload r_0_layOut_37 rfl ?_
            refine pw_getR r_0_layOut_38 fs_0_0 (by decide) ?_
            refine pw_iload r_0_layOut_41 rfl ?_
            refine pw_aaldS r_0_layOut_42 sh20 (by decide) (by decide) aS20 rw21 (by omega) (by omega) ?_
            refine pw_iload r_0_layOut_43 rfl ?_
            refine pw_ialdv (v := gA G 21 (r) (k)) r_0_layOut_44 sh21 (by omega) (by omega) (by first | rfl | simp [gF_sF, gF_sA, gF_uA, gF_sD, gA_sF, gA_sA, gA_uA, gA_sD, gD_sF, gD_sA, gD_uA, gD_sD]) ?_
            refine pw_icmp_gt r_0_layOut_45 (fun h45 => ?_) (fun h45 => ?_)
            · skip
              have hL3 : LOI (gA G 21 (r)) (k + 1) t2 f2 g2 ∧ plX (gA G 21 (r)) t2 = 0 := by rcases hL2 with z | z; exact absurd z.1 (by omega); exact ⟨z.2.1, by omega⟩
              refine pw_iinc (b := 0) (ls' := [some (vR 0 (0)), some (vI (r)), some (vI (t2)), some (vI ((k + 1))), some (vI (m)), none]) r_0_layOut_121 rfl rfl (by omega) rfl ?_
              refine pw_goto r_0_layOut_124 ?_
              refine pw_weakL (ls' := [some (vR 0 (0)), some (vI (r)), some (vI (t2)), some (vI ((k + 1))), none, none]) (⟨rfl, ⟨rfl, ⟨rfl, ⟨rfl, trivial⟩⟩⟩⟩) ?_
              exact ih22 ((k + 1)) (t2) (f2) (g2) (by first | assumption | omega) (by first | assumption | omega) (hL3) (by omega)
            · skip
              refine pw_iload r_0_layOut_48 rfl ?_
              refine pw_const r_0_layOut_49 ?_
              refine pw_icmp_ge r_0_layOut_51 (fun h51 => absurd h51 (by omega)) (fun h51 => ?_)
              have hps := ps_or (x := (gA G 21 (r)) k - m) (by omega)
              have hrs := rs_or (x := (gA G 21 (r)) k - m)
              refine pw_iload r_0_layOut_54 rfl ?_
              refine pw_aload r_0_layOut_56 rfl ?_
              refine pw_getR r_0_layOut_57 fs_0_0 (by decide) ?_
              refine pw_iload r_0_layOut_60 rfl ?_
              refine pw_aaldS r_0_layOut_61 sh20 (by decide) (by decide) aS20 rw21 (by omega) (by omega) ?_
              refine pw_iload r_0_layOut_62 rfl ?_
              refine pw_ialdv (v := gA G 21 (r) (k)) r_0_layOut_63 sh21 (by omega) (by omega) (by first | rfl | simp [gF_sF, gF_sA, gF_uA, gF_sD, gA_sF, gA_sA, gA_uA, gA_sD, gD_sF, gD_sA, gD_uA, gD_sD]) ?_
              refine pw_icmp_ne r_0_layOut_64 (fun h64 => ?_) (fun h64 => ?_)
              · skip
                refine pw_const r_0_layOut_71 ?_
                refine pw_istore (ls' := [some (vR 0 (0)), some (vI (r)), some (vI (t2)), some (vI (k)), some (vI (m)), some (vI (0))]) r_0_layOut_72 rfl rfl ?_
                refine pw_iinc (b := 0) (ls' := [some (vR 0 (0)), some (vI (r)), some (vI ((t2 + 1))), some (vI (k)), some (vI (m)), some (vI (0))]) r_0_layOut_74 rfl rfl (by omega) rfl ?_
                refine pw_aload r_0_layOut_77 rfl ?_
                refine pw_getR r_0_layOut_78 fs_0_2 (by decide) ?_
                refine pw_iload r_0_layOut_81 rfl ?_
                refine pw_aaldS r_0_layOut_82 sh23 (by decide) (by decide) aS23 rw24 (by omega) (by omega) ?_
                refine pw_iload r_0_layOut_83 rfl ?_
                refine pw_iload r_0_layOut_84 rfl ?_
                refine pw_if_eq r_0_layOut_86 (fun h86 => ?_) (fun h86 => absurd h86 (by decide))
                refine pw_iload r_0_layOut_95 rfl ?_
                refine pw_iast r_0_layOut_96 sh24 (by omega) (by omega) ?_
                refine pw_aload r_0_layOut_97 rfl ?_
                refine pw_getR r_0_layOut_98 fs_0_3 (by decide) ?_
                refine pw_iload r_0_layOut_101 rfl ?_
                refine pw_aaldS r_0_layOut_102 sh25 (by decide) (by decide) aS25 rw26 (by omega) (by omega) ?_
                refine pw_iload r_0_layOut_103 rfl ?_
                refine pw_iload r_0_layOut_104 rfl ?_
                refine pw_if_eq r_0_layOut_106 (fun h106 => ?_) (fun h106 => absurd h106 (by decide))
                refine pw_const r_0_layOut_113 ?_
                refine pw_iast r_0_layOut_114 sh26 (by omega) (by omega) ?_
                refine pw_iinc (b := 0) (ls' := [some (vR 0 (0)), some (vI (r)), some (vI ((t2 + 1))), some (vI (k)), some (vI ((m + 1))), some (vI (0))]) r_0_layOut_115 rfl rfl (by omega) rfl ?_
                refine pw_goto r_0_layOut_118 ?_
                refine pw_weakL (ls' := [some (vR 0 (0)), some (vI (r)), some (vI ((t2 + 1))), some (vI (k)), some (vI ((m + 1))), none]) (⟨rfl, ⟨rfl, ⟨rfl, ⟨rfl, ⟨rfl, trivial⟩⟩⟩⟩⟩) ?_
                refine pw_eqG (G' := uA (uA G 24 (r) ((upA f2 (t2 + 1) (k)))) 26 (r) ((upA g2 (t2 + 1) (0)))) (by rw [sA_uA_ne _ _ _ _ _ _ _ _ (by decide), sA_uA, sA_uA]) ?_
                exact ih35 ((m + 1)) ((t2 + 1)) ((upA f2 (t2 + 1) (k))) ((upA g2 (t2 + 1) (0))) (by first | assumption | omega) (by first | assumption | omega) (Or.inr ⟨by omega, lo_go hL2 ht2.1 hk.1 ⟨by omega, by omega⟩ (by omega) (by omega) (by omega)⟩) (by omega)
              · skip
                refine pw_const r_0_layOut_67 ?_
                refine pw_goto r_0_layOut_68 ?_
                refine pw_istore (ls' := [some (vR 0 (0)), some (vI (r)), some (vI (t2)), some (vI (k)), some (vI (m)), some (vI (1))]) r_0_layOut_72 rfl rfl ?_
                refine pw_iinc (b := 0) (ls' := [some (vR 0 (0)), some (vI (r)), some (vI ((t2 + 1))), some (vI (k)), some (vI (m)), some (vI (1))]) r_0_layOut_74 rfl rfl (by omega) rfl ?_
                refine pw_aload r_0_layOut_77 rfl ?_
                refine pw_getR r_0_layOut_78 fs_0_2 (by decide) ?_
                refine pw_iload r_0_layOut_81 rfl ?_
                refine pw_aaldS r_0_layOut_82 sh23 (by decide) (by decide) aS23 rw24 (by omega) (by omega) ?_
                refine pw_iload r_0_layOut_83 rfl ?_
                refine pw_iload r_0_layOut_84 rfl ?_
                refine pw_if_eq r_0_layOut_86 (fun h86 => absurd h86 (by decide)) (fun h86 => ?_)
                refine pw_iload r_0_layOut_89 rfl ?_
                refine pw_const r_0_layOut_90 ?_
                refine pw_iadd r_0_layOut_91 (by omega) ?_
                refine pw_goto r_0_layOut_92 ?_
                refine pw_iast r_0_layOut_96 sh24 (by omega) (by omega) ?_
                refine pw_aload r_0_layOut_97 rfl ?_
                refine pw_getR r_0_layOut_98 fs_0_3 (by decide) ?_
                refine pw_iload r_0_layOut_101 rfl ?_
                refine pw_aaldS r_0_layOut_102 sh25 (by decide) (by decide) aS25 rw26 (by omega) (by omega) ?_
                refine pw_iload r_0_layOut_103 rfl ?_
                refine pw_iload r_0_layOut_104 rfl ?_
                refine pw_if_eq r_0_layOut_106 (fun h106 => absurd h106 (by decide)) (fun h106 => ?_)
                refine pw_const r_0_layOut_109 ?_
                refine pw_goto r_0_layOut_110 ?_
                refine pw_iast r_0_layOut_114 sh26 (by omega) (by omega) ?_
                refine pw_iinc (b := 0) (ls' := [some (vR 0 (0)), some (vI (r)), some (vI ((t2 + 1))), some (vI (k)), some (vI ((m + 1))), some (vI (1))]) r_0_layOut_115 rfl rfl (by omega) rfl ?_
                refine pw_goto r_0_layOut_118 ?_
                refine pw_weakL (ls' := [some (vR 0 (0)), some (vI (r)), some (vI ((t2 + 1))), some (vI (k)), some (vI ((m + 1))), none]) (⟨rfl, ⟨rfl, ⟨rfl, ⟨rfl, ⟨rfl, trivial⟩⟩⟩⟩⟩) ?_
                refine pw_eqG (G' := uA (uA G 24 (r) ((upA f2 (t2 + 1) ((k + 1))))) 26 (r) ((upA g2 (t2 + 1) (1)))) (by rw [sA_uA_ne _ _ _ _ _ _ _ _ (by decide), sA_uA, sA_uA]) ?_
                exact ih35 ((m + 1)) ((t2 + 1)) ((upA f2 (t2 + 1) ((k + 1)))) ((upA g2 (t2 + 1) (1))) (by first | assumption | omega) (by first | assumption | omega) (Or.inr ⟨by omega, lo_go hL2 ht2.1 hk.1 ⟨by omega, by omega⟩ (by omega) (by omega) (by omega)⟩) (by omega)
        exact L35 _ (1) (t) (f) (g) (by first | assumption | omega) (by first | assumption | omega) (Or.inl ⟨rfl, hL.1, hL.2⟩) (Nat.lt_succ_self _)
  refine pw_eqG (G' := uA (uA G 24 (r) ((upA (gA G 24 r) 0 0))) 26 (r) ((upA (gA G 26 r) 0 1))) (by rw [sA_eq, sA_eq]; rfl) ?_
  exact L22 _ (0) (0) ((upA (gA G 24 r) 0 0)) ((upA (gA G 26 r) 0 1)) (by first | assumption | omega) (by first | assumption | omega) (lo_0 (upA_same _ _ _) (upA_same _ _ _)) (Nat.lt_succ_self _)
set_option maxRecDepth 10000 in
theorem sp_X0_keepStarts {l : Launch} {w : Wo} {d : Nat} {G : PH} {P : Option PV → PH → Prop} {h : Int} {wa wb : Int → Int} {V : Int → Int → Int} (htt : (0 ≤ (gA G 27 0 (0)) ∧ (gA G 27 0 (0)) ≤ 90) ∧ 0 ≤ (gA G 27 0 (1)) ∧ (gA G 27 0 (1)) ≤ 90) (hov : ∀ r p, 0 ≤ r → r < 2 → 0 ≤ p → p ≤ (gA G 27 0 (r)) → 0 ≤ (gA G 24 (r) (p)) ∧ (gA G 24 (r) (p)) ≤ 10) (hh : 1 ≤ h ∧ h ≤ 3) (hLA : LOF wa (gA G 27 0 (0)) (gA G 24 (0)) (gA G 26 (0))) (hLB : LOF wb (gA G 27 0 (1)) (gA G 24 (1)) (gA G 26 (1))) (hBE : BEL wa wb (gA G 27 0 (0)) (gA G 27 0 (1)) h V) (htb : ∀ x y, 0 ≤ x → x ≤ (gA G 27 0 (0)) → 0 ≤ y → y ≤ (gA G 27 0 (1)) → (gA G 28 0 (x * 91 + y)) = V x y) (hln : (gF G 0 0 7) = V 0 0 ∧ V 0 0 ≠ 1000000000) (hP : ∀ st : Int → Int, (∀ m, 0 ≤ m → m < (gF G 0 0 7) → st m = bgF wa wb (gA G 27 0 (0)) (gA G 27 0 (1)) h V (ptI wa wb (gA G 27 0 (0)) (gA G 27 0 (1)) h V m).1 (ptI wa wb (gA G 27 0 (0)) (gA G 27 0 (1)) h V m).2) → P none (uA G 29 0 st)) : PW l w M_X0_keepStarts (d + 3) 0 [some (vR 0 (0)), some (vI (h)), none, none, none, none, none, none] [] G P := by
  have hb0 := bel_0 hBE htt
  refine pw_const r_0_keepStarts_0 ?_
  refine pw_istore (ls' := [some (vR 0 (0)), some (vI (h)), some (vI (0)), none, none, none, none, none]) r_0_keepStarts_1 rfl rfl ?_
  refine pw_const r_0_keepStarts_2 ?_
  refine pw_istore (ls' := [some (vR 0 (0)), some (vI (h)), some (vI (0)), some (vI (0)), none, none, none, none]) r_0_keepStarts_3 rfl rfl ?_
  refine pw_const r_0_keepStarts_4 ?_
  refine pw_istore (ls' := [some (vR 0 (0)), some (vI (h)), some (vI (0)), some (vI (0)), some (vI (0)), none, none, none]) r_0_keepStarts_5 rfl rfl ?_
  have L7 : ∀ (nF : Nat) (m a b : Int) (st : Int → Int), (hm : 0 ≤ m ∧ m ≤ (gF G 0 0 7)) → (hpa : a = (ptI wa wb (gA G 27 0 (0)) (gA G 27 0 (1)) h V m).1) → (hpb : b = (ptI wa wb (gA G 27 0 (0)) (gA G 27 0 (1)) h V m).2) → (hst : ∀ j, 0 ≤ j → j < m → st j = bgF wa wb (gA G 27 0 (0)) (gA G 27 0 (1)) h V (ptI wa wb (gA G 27 0 (0)) (gA G 27 0 (1)) h V j).1 (ptI wa wb (gA G 27 0 (0)) (gA G 27 0 (1)) h V j).2) → ((gF G 0 0 7) - m).toNat < nF → PW l w M_X0_keepStarts (d + 3) 7 [some (vR 0 (0)), some (vI (h)), some (vI (a)), some (vI (b)), some (vI (m)), none, none, none] [] (uA G 29 (0) (st)) P := by
    intro nF
    induction nF with
    | zero => intro _ _ _ _ _ _ _ _ hM; exact absurd hM (Nat.not_lt_zero _)
    | succ nF ih7 =>
      intro m a b st hm hpa hpb hst hM7
      have hpt := pt_at hBE htt hln.2 ⟨hm.1, by omega⟩ hpa hpb
      refine pw_iload r_0_keepStarts_7 rfl ?_
      refine pw_aload r_0_keepStarts_9 rfl ?_
      refine pw_getIv (v := gF G 0 (0) 7) r_0_keepStarts_10 fs_0_7 (by decide) (by first | rfl | simp [gF_sF, gF_sA, gF_uA, gF_sD, gA_sF, gA_sA, gA_uA, gA_sD, gD_sF, gD_sA, gD_uA, gD_sD]) ?_
      refine pw_icmp_ge r_0_keepStarts_13 (fun h13 => ?_) (fun h13 => ?_)
      · skip
        refine pw_vret r_0_keepStarts_116 rfl (Nat.le_refl _) ⟨rfl, ?_⟩
        exact hP st (fun j j0 j1 => hst j j0 (by omega))
      · skip
        refine pw_iload r_0_keepStarts_16 rfl ?_
        refine pw_aload r_0_keepStarts_18 rfl ?_
        refine pw_getR r_0_keepStarts_19 fs_0_6 (by decide) ?_
        refine pw_alen r_0_keepStarts_22 sh29 (by decide) ?_
        refine pw_top (b := 180) rfl ?_
        refine pw_icmp_ge r_0_keepStarts_23 (fun h23 => absurd h23 (by omega)) (fun h23 => ?_)
        refine pw_iload r_0_keepStarts_26 rfl ?_
        refine pw_const r_0_keepStarts_27 ?_
        refine pw_icmp_ge r_0_keepStarts_29 (fun h29 => absurd h29 (by omega)) (fun h29 => ?_)
        refine pw_iload r_0_keepStarts_32 rfl ?_
        refine pw_const r_0_keepStarts_33 ?_
        refine pw_icmp_ge r_0_keepStarts_35 (fun h35 => absurd h35 (by omega)) (fun h35 => ?_)
        refine pw_aload r_0_keepStarts_38 rfl ?_
        refine pw_iload r_0_keepStarts_39 rfl ?_
        refine pw_iload r_0_keepStarts_40 rfl ?_
        refine pw_aload r_0_keepStarts_41 rfl ?_
        refine pw_getIv (v := gF G 0 (0) 7) r_0_keepStarts_42 fs_0_7 (by decide) (by first | rfl | simp [gF_sF, gF_sA, gF_uA, gF_sD, gA_sF, gA_sA, gA_uA, gA_sD, gD_sF, gD_sA, gD_uA, gD_sD]) ?_
        refine pw_iload r_0_keepStarts_45 rfl ?_
        refine pw_isub r_0_keepStarts_47 (by omega) ?_
        refine pw_const r_0_keepStarts_48 ?_
        refine pw_isub r_0_keepStarts_49 (by omega) ?_
        refine pw_iload r_0_keepStarts_50 rfl ?_
        refine pw_callV (av := [vI (a), vI (b), vI ((((gF G 0 (0) 7) - m) - 1)), vI (h)]) (st := []) (ls0 := [some (vR 0 (0)), some (vI (a)), some (vI (b)), some (vI ((((gF G 0 (0) 7) - m) - 1))), some (vI (h))]) r_0_keepStarts_51 rfl rfl rfl (Nat.le_refl _) ?_
        refine sp_X0_firstWalking (v3 := (vB wa wb (gA G 27 0 (0)) (gA G 27 0 (1)) h V a b 1 1)) (v1 := (vB wa wb (gA G 27 0 (0)) (gA G 27 0 (1)) h V a b 1 0)) (by exact htt) (by exact hov) (by exact ⟨hpt.1, hpt.2.1⟩) (by exact hh) (by exact vw_of (V := V) (tb := gA G 28 0) hLA hLB ⟨hpt.1.1, hpt.1.2⟩ ⟨hpt.2.1.1, hpt.2.1.2⟩ (by decide) (fun z => htb _ _ (by omega) z.2.2.1 (by omega) z.2.2.2.1)) (by exact vw_of (V := V) (tb := gA G 28 0) hLA hLB ⟨hpt.1.1, hpt.1.2⟩ ⟨hpt.2.1.1, hpt.2.1.2⟩ (by decide) (fun z => htb _ _ (by omega) z.2.2.1 (by omega) z.2.2.2.1)) ?_
        intro u hu
        have er : u = pk wa wb (gA G 27 0 (0)) (gA G 27 0 (1)) h V a b := by have := pk_or (wa := wa) (wb := wb) (TA := (gA G 27 0 (0))) (TB := (gA G 27 0 (1))) (h := h) (V := V) (a := a) (b := b); omega
        have hub := pA_bit (u := u) (by omega)
        have hpn := pt_n hm.1 hpa hpb
        have hr0 : (gA G 26 0 (a)) = rs (plX wa a) := (hLA a hpt.1.1 hpt.1.2).2
        have hr1 : (gA G 26 (1) (b)) = rs (plX wb b) := (hLB b hpt.2.1.1 hpt.2.1.2).2
        have ho0 := rs_or (x := plX wa a)
        have ho1 := rs_or (x := plX wb b)
        have hA1 := pA_01 (u := u)
        have hB1 := pB_01 (u := u)
        have hm1 := mul01 (x := (gA G 26 0 (a))) (u := pA u) (v := 0) (by omega) hA1
        have hm2 := mul02 (x := (gA G 26 (1) (b))) (u := pB u) (by omega) hB1
        refine pw_istore (ls' := [some (vR 0 (0)), some (vI (h)), some (vI (a)), some (vI (b)), some (vI (m)), some (vI (u)), none, none]) r_0_keepStarts_54 rfl rfl ?_
        refine pw_iload r_0_keepStarts_56 rfl ?_
        refine pw_const r_0_keepStarts_58 ?_
        refine pw_iand r_0_keepStarts_59 ?_
        refine pw_top (b := pA u) (hub.1) ?_
        refine pw_istore (ls' := [some (vR 0 (0)), some (vI (h)), some (vI (a)), some (vI (b)), some (vI (m)), some (vI (u)), some (vI (pA u)), none]) r_0_keepStarts_60 rfl rfl ?_
        refine pw_iload r_0_keepStarts_62 rfl ?_
        refine pw_const r_0_keepStarts_64 ?_
        refine pw_ishr r_0_keepStarts_65 ?_
        refine pw_top (b := pB u) (hub.2) ?_
        refine pw_istore (ls' := [some (vR 0 (0)), some (vI (h)), some (vI (a)), some (vI (b)), some (vI (m)), some (vI (u)), some (vI (pA u)), some (vI (pB u))]) r_0_keepStarts_66 rfl rfl ?_
        refine pw_aload r_0_keepStarts_68 rfl ?_
        refine pw_getR r_0_keepStarts_69 fs_0_6 (by decide) ?_
        refine pw_iload r_0_keepStarts_72 rfl ?_
        refine pw_aload r_0_keepStarts_74 rfl ?_
        refine pw_getR r_0_keepStarts_75 fs_0_3 (by decide) ?_
        refine pw_const r_0_keepStarts_78 ?_
        refine pw_aaldS r_0_keepStarts_79 sh25 (by decide) (by decide) aS25 rw26 (by omega) (by omega) ?_
        refine pw_iload r_0_keepStarts_80 rfl ?_
        refine pw_ialdv (v := gA G 26 (0) (a)) r_0_keepStarts_81 sh26 (by omega) (by omega) (by first | rfl | simp [gF_sF, gF_sA, gF_uA, gF_sD, gA_sF, gA_sA, gA_uA, gA_sD, gD_sF, gD_sA, gD_uA, gD_sD]) ?_
        refine pw_iload r_0_keepStarts_82 rfl ?_
        refine pw_imul r_0_keepStarts_84 (by omega) ?_
        refine pw_const r_0_keepStarts_85 ?_
        refine pw_aload r_0_keepStarts_86 rfl ?_
        refine pw_getR r_0_keepStarts_87 fs_0_3 (by decide) ?_
        refine pw_const r_0_keepStarts_90 ?_
        refine pw_aaldS r_0_keepStarts_91 sh25 (by decide) (by decide) aS25 rw26 (by omega) (by omega) ?_
        refine pw_iload r_0_keepStarts_92 rfl ?_
        refine pw_ialdv (v := gA G 26 (1) (b)) r_0_keepStarts_93 sh26 (by omega) (by omega) (by first | rfl | simp [gF_sF, gF_sA, gF_uA, gF_sD, gA_sF, gA_sA, gA_uA, gA_sD, gD_sF, gD_sA, gD_uA, gD_sD]) ?_
        refine pw_imul r_0_keepStarts_94 (by omega) ?_
        refine pw_iload r_0_keepStarts_95 rfl ?_
        refine pw_imul r_0_keepStarts_97 (by omega) ?_
        refine pw_iadd r_0_keepStarts_98 (by omega) ?_
        refine pw_iast r_0_keepStarts_99 sh29 (by omega) (by omega) ?_
        refine pw_iload r_0_keepStarts_100 rfl ?_
        refine pw_iload r_0_keepStarts_101 rfl ?_
        refine pw_iadd r_0_keepStarts_103 (by omega) ?_
        refine pw_istore (ls' := [some (vR 0 (0)), some (vI (h)), some (vI ((a + (pA u)))), some (vI (b)), some (vI (m)), some (vI (u)), some (vI (pA u)), some (vI (pB u))]) r_0_keepStarts_104 rfl rfl ?_
        refine pw_iload r_0_keepStarts_105 rfl ?_
        refine pw_iload r_0_keepStarts_106 rfl ?_
        refine pw_iadd r_0_keepStarts_108 (by omega) ?_
        refine pw_istore (ls' := [some (vR 0 (0)), some (vI (h)), some (vI ((a + (pA u)))), some (vI ((b + (pB u)))), some (vI (m)), some (vI (u)), some (vI (pA u)), some (vI (pB u))]) r_0_keepStarts_109 rfl rfl ?_
        refine pw_iinc (b := 0) (ls' := [some (vR 0 (0)), some (vI (h)), some (vI ((a + (pA u)))), some (vI ((b + (pB u)))), some (vI ((m + 1))), some (vI (u)), some (vI (pA u)), some (vI (pB u))]) r_0_keepStarts_110 rfl rfl (by omega) rfl ?_
        refine pw_goto r_0_keepStarts_113 ?_
        refine pw_weakL (ls' := [some (vR 0 (0)), some (vI (h)), some (vI ((a + (pA u)))), some (vI ((b + (pB u)))), some (vI ((m + 1))), none, none, none]) (⟨rfl, ⟨rfl, ⟨rfl, ⟨rfl, ⟨rfl, trivial⟩⟩⟩⟩⟩) ?_
        refine pw_eqG (G' := uA G 29 (0) ((upA st m ((((gA G 26 0 (a)) * (pA u)) + ((2 * (gA G 26 (1) (b))) * (pB u))))))) (by rw [sA_uA]) ?_
        exact ih7 ((m + 1)) ((a + (pA u))) ((b + (pB u))) ((upA st m ((((gA G 26 0 (a)) * (pA u)) + ((2 * (gA G 26 (1) (b))) * (pB u)))))) (by first | assumption | omega) (by rw [hpn.1, er]) (by rw [hpn.2, er]) (fun j j0 j1 => by by_cases e : j = m; (rw [e, upA_same, ← hpa, ← hpb, hr0, hr1, er]; rfl); (rw [upA_ne e]; exact hst j j0 (by omega))) (by omega)
  refine pw_eqG (G' := uA G 29 (0) ((gA G 29 0))) ((uA_own _ _ _).symm) ?_
  exact L7 _ (0) (0) (0) ((gA G 29 0)) (by first | assumption | omega) (rfl) (rfl) (fun j a b => by omega) (Nat.lt_succ_self _)

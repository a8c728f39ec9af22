def plS (w : Int → Int) (_ : Int) (s : Int × Int) : Int × Int := if s.2 = 0 then (s.1 + 1, w s.1 - 1) else (s.1, s.2 - 1)
def plK (w : Int → Int) (p : Int) : Int := (iterI (plS w) p (0, 0)).1
def plX (w : Int → Int) (p : Int) : Int := (iterI (plS w) p (0, 0)).2
def smW (w : Int → Int) (k : Int) : Int := iterI (fun i s => s + w i) k 0
section PL
variable {w : Int → Int} {n T p q : Int}
theorem pl_0 : plK w 0 = 0 ∧ plX w 0 = 0 := ⟨rfl, rfl⟩
theorem pl_r (hp : 0 ≤ p) (hx : plX w p = 0) : plK w (p + 1) = plK w p + 1 ∧ plX w (p + 1) = w (plK w p) - 1 := by
  have e : iterI (plS w) (p + 1) (0, 0) = (plK w p + 1, w (plK w p) - 1) := by
    rw [iter_s _ hp]; exact if_pos hx
  exact ⟨congrArg Prod.fst e, congrArg Prod.snd e⟩
theorem pl_w (hp : 0 ≤ p) (hx : plX w p ≠ 0) : plK w (p + 1) = plK w p ∧ plX w (p + 1) = plX w p - 1 := by
  have e : iterI (plS w) (p + 1) (0, 0) = (plK w p, plX w p - 1) := by
    rw [iter_s _ hp]; exact if_neg hx
  have h1 := congrArg Prod.fst e
  have h2 := congrArg Prod.snd e
  exact ⟨h1, h2⟩
def RWy (n : Int) (w : Int → Int) (T : Int) : Prop := (0 ≤ T ∧ T ≤ 90) ∧ (plK w T = n ∧ plX w T = 0) ∧ (∀ p, 0 ≤ p → p < T → plX w p = 0 → plK w p < n) ∧ ∀ p, 0 ≤ p → p ≤ T → (0 ≤ plK w p ∧ plK w p ≤ n) ∧ 0 ≤ plX w p ∧ plX w p ≤ 8
theorem pl_sum (hR : RWy n w T) : ∀ k : Nat, (k : Int) ≤ T → (k : Int) + plX w k = smW w (plK w k) := by
  intro k
  induction k with
  | zero => intro _; rfl
  | succ k ih =>
    intro hk
    have h1 := ih (by omega)
    have h2 := hR.2.2.2 (k : Int) (by omega) (by omega)
    rw [show ((k + 1 : Nat) : Int) = (k : Int) + 1 by omega]
    by_cases hx : plX w (k : Int) = 0
    · have h3 := pl_r (w := w) (p := (k : Int)) (by omega) hx
      rw [h3.1, h3.2]
      unfold smW at h1 ⊢
      rw [iter_s _ h2.1.1]
      omega
    · have h3 := pl_w (w := w) (p := (k : Int)) (by omega) hx
      rw [h3.1, h3.2]
      omega
theorem pl_inj (hR : RWy n w T) (hp : 0 ≤ p ∧ p ≤ T) (hq : 0 ≤ q ∧ q ≤ T) (h1 : plK w p = plK w q) (h2 : plX w p = plX w q) : p = q := by
  have a := pl_sum hR p.toNat (by omega)
  have b := pl_sum hR q.toNat (by omega)
  rw [Int.toNat_of_nonneg hp.1] at a
  rw [Int.toNat_of_nonneg hq.1] at b
  rw [h1] at a
  omega
theorem tk_pos {x : Int} (h : 0 < x) : tk x = x - 1 := if_pos h
theorem tk_zero : tk 0 = 0 := if_neg (by decide)
theorem row_go {k x x1 a1 sg : Int} {B : Prop} (hR : RWy n w T) (hp : 0 ≤ p ∧ p ≤ T) (hk : plK w p = k) (hx : plX w p = x) (h1 : (B ∧ (k < n → x1 = w k) ∧ a1 = k + 1) ∨ (¬ B ∧ x1 = x ∧ a1 = k)) (hs : (sg = 1 ∧ (B ∨ x ≠ 0)) ∨ (sg = 0 ∧ ¬ B ∧ x = 0)) :
    ((B → x = 0 ∧ k < n) ↔ ((B → x = 0) ∧ p + sg ≤ T)) ∧ ((B → x = 0) → p + sg ≤ T → a1 = plK w (p + sg) ∧ tk x1 = plX w (p + sg) ∧ (x1 = 0 ↔ sg = 0) ∧ (sg = 0 → x = 0) ∧ 0 ≤ x1) := by
  have hb := hR.2.2.2 p hp.1 hp.2
  rw [hk, hx] at hb
  rcases hs with ⟨hs, hB⟩ | ⟨hs, hB, hx0⟩
  · subst hs
    by_cases hx0 : x = 0
    · have hB2 : B := by
        rcases hB with z | z
        · exact z
        · exact absurd hx0 z
      have h3 := pl_r (w := w) hp.1 (by omega : plX w p = 0)
      rw [hk] at h3
      have h4 : p < T → k < n := fun z => by
        have := hR.2.2.1 p hp.1 z (by omega)
        omega
      have h5 : k < n → p < T := fun z => by
        by_cases e : p = T
        · have h6 := hR.2.1.1
          rw [← e, hk] at h6
          omega
        · omega
      rcases h1 with ⟨_, e1, e2⟩ | ⟨e1, _⟩
      · refine ⟨⟨fun z => ⟨fun _ => hx0, by have := h5 (z hB2).2; omega⟩, fun z _ => ⟨hx0, h4 (by have := z.2; omega)⟩⟩, fun _ hT => ?_⟩
        have h7 := hR.2.2.2 (p + 1) (by omega) hT
        have h8 := e1 (h4 (by omega))
        have h9 := tk_pos (x := x1) (by omega)
        refine ⟨by omega, by omega, by omega, by omega, by omega⟩
      · exact absurd hB2 e1
    · have h3 := pl_w (w := w) hp.1 (by omega : plX w p ≠ 0)
      have h5 : p < T := by
        by_cases e : p = T
        · have h6 := hR.2.1.2
          rw [← e, hx] at h6
          omega
        · omega
      rcases h1 with ⟨e0, e1, e2⟩ | ⟨e0, e1, e2⟩
      · exact ⟨⟨fun z => absurd (z e0).1 hx0, fun z => absurd (z.1 e0) hx0⟩, fun z => absurd (z e0) hx0⟩
      · refine ⟨⟨fun z => ⟨fun y => absurd y e0, by omega⟩, fun z y => absurd y e0⟩, fun _ hT => ?_⟩
        have h9 := tk_pos (x := x1) (by omega)
        refine ⟨by omega, by omega, by omega, by omega, by omega⟩
  · subst hs
    rcases h1 with ⟨e0, _, _⟩ | ⟨e0, e1, e2⟩
    · exact absurd e0 hB
    · rw [Int.add_zero]
      refine ⟨⟨fun z => ⟨fun y => absurd y e0, hp.2⟩, fun z y => absurd y e0⟩, fun _ hT => ?_⟩
      have h9 : tk x1 = 0 := by rw [e1, hx0]; exact tk_zero
      refine ⟨by omega, by omega, by omega, by omega, by omega⟩
end PL
def sgA (c x : Int) : Int := if c % 2 = 1 ∨ x ≠ 0 then 1 else 0
def sgB (c y : Int) : Int := if 2 ≤ c ∨ y ≠ 0 then 1 else 0
theorem sgA_or {c x : Int} : (sgA c x = 1 ∧ (c % 2 = 1 ∨ x ≠ 0)) ∨ (sgA c x = 0 ∧ ¬ c % 2 = 1 ∧ x = 0) := by
  unfold sgA
  split
  · exact Or.inl ⟨rfl, by assumption⟩
  · exact Or.inr ⟨rfl, by omega, by omega⟩
theorem sgB_or {c y : Int} : (sgB c y = 1 ∧ (2 ≤ c ∨ y ≠ 0)) ∨ (sgB c y = 0 ∧ ¬ 2 ≤ c ∧ y = 0) := by
  unfold sgB
  split
  · exact Or.inl ⟨rfl, by assumption⟩
  · exact Or.inr ⟨rfl, by omega, by omega⟩
def stW (wa wb : Int → Int) (a b : Int) : Int := 1100 * plK wa a + 110 * plX wa a + 10 * plK wb b + plX wb b
def okB (wa wb : Int → Int) (TA TB h a b sa sb : Int) : Prop := (sa = 0 → plX wa a = 0) ∧ (sb = 0 → plX wb b = 0) ∧ a + sa ≤ TA ∧ b + sb ≤ TB ∧ -h ≤ plK wa (a + sa) - ps (plX wa (a + sa)) - plK wb (b + sb) + ps (plX wb (b + sb)) ∧ plK wa (a + sa) - ps (plX wa (a + sa)) - plK wb (b + sb) + ps (plX wb (b + sb)) ≤ h
def okH (wa wb : Int → Int) (TA TB h a b c : Int) : Prop := (c % 2 = 1 → plX wa a = 0) ∧ (2 ≤ c → plX wb b = 0) ∧ ¬ (sgA c (plX wa a) = 0 ∧ sgB c (plX wb b) = 0) ∧ okB wa wb TA TB h a b (sgA c (plX wa a)) (sgB c (plX wb b))
theorem bok_iff {wa wb va vb : Int → Int} {n0 n1 TA TB h a b c x1 a1 y1 b1 : Int} (hA : RWy n0 wa TA) (hB : RWy n1 wb TB) (ha : 0 ≤ a ∧ a ≤ TA) (hb : 0 ≤ b ∧ b ≤ TB) (hva : ∀ i, 0 ≤ i → i < n0 → va i = wa i) (hvb : ∀ i, 0 ≤ i → i < n1 → vb i = wb i)
    (hx1 : (c % 2 = 1 ∧ x1 = va (plK wa a) ∧ a1 = plK wa a + 1) ∨ (c % 2 = 0 ∧ x1 = plX wa a ∧ a1 = plK wa a)) (hy1 : (2 ≤ c ∧ y1 = vb (plK wb b) ∧ b1 = plK wb b + 1) ∨ (c < 2 ∧ y1 = plX wb b ∧ b1 = plK wb b)) :
    (((c % 2 = 1 → plX wa a = 0 ∧ plK wa a < n0) ∧ (2 ≤ c → plX wb b = 0 ∧ plK wb b < n1) ∧ ¬ (x1 = 0 ∧ y1 = 0) ∧ -h ≤ a1 - ps (tk x1) - b1 + ps (tk y1) ∧ a1 - ps (tk x1) - b1 + ps (tk y1) ≤ h) ↔ okH wa wb TA TB h a b c) ∧ (okH wa wb TA TB h a b c → 1100 * a1 + 110 * tk x1 + 10 * b1 + tk y1 = stW wa wb (a + sgA c (plX wa a)) (b + sgB c (plX wb b))) := by
  have kA := hA.2.2.2 a ha.1 ha.2
  have kB := hB.2.2.2 b hb.1 hb.2
  have g1 := row_go (B := c % 2 = 1) (x1 := x1) (a1 := a1) hA ha rfl rfl (by
    rcases hx1 with ⟨z1, z2, z3⟩ | ⟨z1, z2, z3⟩
    · exact Or.inl ⟨z1, fun z => by rw [z2]; exact hva _ kA.1.1 z, z3⟩
    · exact Or.inr ⟨by omega, z2, z3⟩) (sgA_or (c := c))
  have g2 := row_go (B := 2 ≤ c) (x1 := y1) (a1 := b1) hB hb rfl rfl (by
    rcases hy1 with ⟨z1, z2, z3⟩ | ⟨z1, z2, z3⟩
    · exact Or.inl ⟨z1, fun z => by rw [z2]; exact hvb _ kB.1.1 z, z3⟩
    · exact Or.inr ⟨by omega, z2, z3⟩) (sgB_or (c := c))
  clear hx1 hy1
  unfold okH okB
  refine ⟨⟨fun z => ?_, fun z => ?_⟩, fun z => ?_⟩
  · have p1 := g1.1.mp z.1
    have p2 := g2.1.mp z.2.1
    have q1 := g1.2 p1.1 p1.2
    have q2 := g2.2 p2.1 p2.2
    refine ⟨p1.1, p2.1, fun y => z.2.2.1 ⟨q1.2.2.1.mpr y.1, q2.2.2.1.mpr y.2⟩, q1.2.2.2.1, q2.2.2.2.1, p1.2, p2.2, ?_⟩
    have zz := z.2.2.2
    rw [q1.1, q1.2.1, q2.1, q2.2.1] at zz
    exact zz
  · have q1 := g1.2 z.1 z.2.2.2.2.2.1
    have q2 := g2.2 z.2.1 z.2.2.2.2.2.2.1
    refine ⟨g1.1.mpr ⟨z.1, z.2.2.2.2.2.1⟩, g2.1.mpr ⟨z.2.1, z.2.2.2.2.2.2.1⟩, fun y => z.2.2.1 ⟨q1.2.2.1.mp y.1, q2.2.2.1.mp y.2⟩, ?_⟩
    rw [q1.1, q1.2.1, q2.1, q2.2.1]
    exact z.2.2.2.2.2.2.2
  · have q1 := g1.2 z.1 z.2.2.2.2.2.1
    have q2 := g2.2 z.2.1 z.2.2.2.2.2.2.1
    unfold stW
    rw [q1.1, q1.2.1, q2.1, q2.2.1]
def dn (v : Int) : Int := if v = 1000000000 then 100000 else v
theorem dn_or {v : Int} : (v = 1000000000 ∧ dn v = 100000) ∨ (v ≠ 1000000000 ∧ dn v = v) := by
  unfold dn
  by_cases h : v = 1000000000
  · rw [if_pos h]; exact Or.inl ⟨h, rfl⟩
  · rw [if_neg h]; exact Or.inr ⟨h, rfl⟩
noncomputable def vB (wa wb : Int → Int) (TA TB h : Int) (V : Int → Int → Int) (a b sa sb : Int) : Int := @ite _ (okB wa wb TA TB h a b sa sb) (Classical.propDecidable _) (V (a + sa) (b + sb)) 1000000000
def belE (wa wb : Int → Int) (TA TB h : Int) (V : Int → Int → Int) (a b : Int) : Prop := (a = TA ∧ b = TB ∧ V a b = 0) ∨ (¬ (a = TA ∧ b = TB) ∧ V a b = min 1000000000 (1 + min (vB wa wb TA TB h V a b 1 1) (min (vB wa wb TA TB h V a b 1 0) (vB wa wb TA TB h V a b 0 1))))
def belL (TA TB : Int) (V : Int → Int → Int) (a b : Int) : Prop := V a b = 1000000000 ∨ (0 ≤ V a b ∧ V a b ≤ TA - a + (TB - b))
def BEL (wa wb : Int → Int) (TA TB h : Int) (V : Int → Int → Int) : Prop := ∀ a b, 0 ≤ a → a ≤ TA → 0 ≤ b → b ≤ TB → belE wa wb TA TB h V a b ∧ belL TA TB V a b
section BE
variable {wa wb : Int → Int} {TA TB h : Int} {V U : Int → Int → Int} {a b sa sb c : Int}
theorem vB_t (z : okB wa wb TA TB h a b sa sb) : vB wa wb TA TB h V a b sa sb = V (a + sa) (b + sb) := if_pos z
theorem vB_f (z : ¬ okB wa wb TA TB h a b sa sb) : vB wa wb TA TB h V a b sa sb = 1000000000 := if_neg z
theorem vB_congr (z : okB wa wb TA TB h a b sa sb → V (a + sa) (b + sb) = U (a + sa) (b + sb)) : vB wa wb TA TB h V a b sa sb = vB wa wb TA TB h U a b sa sb := by
  by_cases e : okB wa wb TA TB h a b sa sb
  · rw [vB_t e, vB_t e, z e]
  · rw [vB_f e, vB_f e]
theorem vB_L (ha : 0 ≤ a) (hb : 0 ≤ b) (hs : 0 ≤ sa ∧ 0 ≤ sb) (hV : ∀ x y, 0 ≤ x → x ≤ TA → 0 ≤ y → y ≤ TB → x = a + sa → y = b + sb → belL TA TB V x y) : (vB wa wb TA TB h V a b sa sb = 1000000000 ∧ True) ∨ (okB wa wb TA TB h a b sa sb ∧ 0 ≤ vB wa wb TA TB h V a b sa sb ∧ vB wa wb TA TB h V a b sa sb ≤ TA - a + (TB - b) - sa - sb) := by
  by_cases e : okB wa wb TA TB h a b sa sb
  · rw [vB_t e]
    have e1 := e.2.2.1
    have e2 := e.2.2.2.1
    have z := hV (a + sa) (b + sb) (by omega) e1 (by omega) e2 rfl rfl
    unfold belL at z
    rcases z with z | z
    · exact Or.inl ⟨z, trivial⟩
    · exact Or.inr ⟨e, z.1, by omega⟩
  · exact Or.inl ⟨vB_f e, trivial⟩
noncomputable def nC (wa wb : Int → Int) (TA TB h : Int) (V : Int → Int → Int) (a b c : Int) : Int := @ite _ (okH wa wb TA TB h a b c) (Classical.propDecidable _) (1 + dn (V (a + sgA c (plX wa a)) (b + sgB c (plX wb b)))) 100000
noncomputable def lsC (wa wb : Int → Int) (TA TB h : Int) (V : Int → Int → Int) (a b k : Int) : Int := iterI (fun c m => min m (nC wa wb TA TB h V a b c)) k 100000
theorem nC_t (z : okH wa wb TA TB h a b c) : nC wa wb TA TB h V a b c = 1 + dn (V (a + sgA c (plX wa a)) (b + sgB c (plX wb b))) := if_pos z
theorem nC_f (z : ¬ okH wa wb TA TB h a b c) : nC wa wb TA TB h V a b c = 100000 := if_neg z
theorem lsC_0 : lsC wa wb TA TB h V a b 0 = 100000 := rfl
theorem lsC_s (hc : 0 ≤ c) : lsC wa wb TA TB h V a b (c + 1) = min (lsC wa wb TA TB h V a b c) (nC wa wb TA TB h V a b c) := iter_s _ hc _
theorem okH_of (e1 : sgA c (plX wa a) = sa) (e2 : sgB c (plX wb b) = sb) (h1 : c % 2 = 1 → plX wa a = 0) (h2 : 2 ≤ c → plX wb b = 0) (h3 : ¬ (sa = 0 ∧ sb = 0)) : okH wa wb TA TB h a b c ↔ okB wa wb TA TB h a b sa sb := by
  unfold okH
  rw [e1, e2]
  exact ⟨fun z => z.2.2.2, fun z => ⟨h1, h2, h3, z⟩⟩
theorem nC_v (hB : BEL wa wb TA TB h V) (ha : 0 ≤ a) (hb : 0 ≤ b) (hs : 0 ≤ sa ∧ 0 ≤ sb) (e1 : sgA c (plX wa a) = sa) (e2 : sgB c (plX wb b) = sb) (h1 : c % 2 = 1 → plX wa a = 0) (h2 : 2 ≤ c → plX wb b = 0) (h3 : ¬ (sa = 0 ∧ sb = 0)) :
    (vB wa wb TA TB h V a b sa sb = 1000000000 ∧ 100000 ≤ nC wa wb TA TB h V a b c) ∨ (vB wa wb TA TB h V a b sa sb ≠ 1000000000 ∧ nC wa wb TA TB h V a b c = 1 + vB wa wb TA TB h V a b sa sb) := by
  have hi := okH_of (TA := TA) (TB := TB) (h := h) e1 e2 h1 h2 h3
  by_cases e : okB wa wb TA TB h a b sa sb
  · rw [nC_t (hi.mpr e), vB_t e, e1, e2]
    have := dn_or (v := V (a + sa) (b + sb))
    omega
  · rw [nC_f (fun z => e (hi.mp z)), vB_f e]
    omega
theorem gd_iff (hB : BEL wa wb TA TB h V) {t : Int} (ht : t ≠ 1000000000) (e1 : sgA c (plX wa a) = sa) (e2 : sgB c (plX wb b) = sb) (h1 : c % 2 = 1 → plX wa a = 0) (h2 : 2 ≤ c → plX wb b = 0) (h3 : ¬ (sa = 0 ∧ sb = 0)) :
    (okH wa wb TA TB h a b c ∧ V (a + sgA c (plX wa a)) (b + sgB c (plX wb b)) = t) ↔ vB wa wb TA TB h V a b sa sb = t := by
  have hi := okH_of (TA := TA) (TB := TB) (h := h) e1 e2 h1 h2 h3
  by_cases e : okB wa wb TA TB h a b sa sb
  · rw [vB_t e, e1, e2]
    exact ⟨fun z => z.2, fun z => ⟨hi.mpr e, z⟩⟩
  · rw [vB_f e]
    exact ⟨fun z => absurd (hi.mp z.1) e, fun z => absurd z.symm ht⟩
theorem sgA_1 (z : c % 2 = 1 ∨ plX wa a ≠ 0) : sgA c (plX wa a) = 1 := if_pos z
theorem sgA_0 (z : ¬ (c % 2 = 1 ∨ plX wa a ≠ 0)) : sgA c (plX wa a) = 0 := if_neg z
theorem sgB_1 (z : 2 ≤ c ∨ plX wb b ≠ 0) : sgB c (plX wb b) = 1 := if_pos z
theorem sgB_0 (z : ¬ (2 ≤ c ∨ plX wb b ≠ 0)) : sgB c (plX wb b) = 0 := if_neg z
theorem ls_4 (hB : BEL wa wb TA TB h V) (ha : 0 ≤ a ∧ a ≤ TA) (hb : 0 ≤ b ∧ b ≤ TB) (hT : TA ≤ 90 ∧ TB ≤ 90) (hne : ¬ (a = TA ∧ b = TB)) : lsC wa wb TA TB h V a b 4 = dn (V a b) := by
  have hE := (hB a b ha.1 ha.2 hb.1 hb.2).1
  have hv : V a b = min 1000000000 (1 + min (vB wa wb TA TB h V a b 1 1) (min (vB wa wb TA TB h V a b 1 0) (vB wa wb TA TB h V a b 0 1))) := by
    rcases hE with z | z
    · exact absurd ⟨z.1, z.2.1⟩ hne
    · exact z.2
  have hd := dn_or (v := V a b)
  have b11 := vB_L (wa := wa) (wb := wb) (h := h) (V := V) (sa := 1) (sb := 1) ha.1 hb.1 (by decide) (fun x y x0 x1 y0 y1 _ _ => (hB x y x0 x1 y0 y1).2)
  have b10 := vB_L (wa := wa) (wb := wb) (h := h) (V := V) (sa := 1) (sb := 0) ha.1 hb.1 (by decide) (fun x y x0 x1 y0 y1 _ _ => (hB x y x0 x1 y0 y1).2)
  have b01 := vB_L (wa := wa) (wb := wb) (h := h) (V := V) (sa := 0) (sb := 1) ha.1 hb.1 (by decide) (fun x y x0 x1 y0 y1 _ _ => (hB x y x0 x1 y0 y1).2)
  have l1 : lsC wa wb TA TB h V a b 1 = min 100000 (nC wa wb TA TB h V a b 0) := lsC_s (c := 0) (by decide)
  have l2 : lsC wa wb TA TB h V a b 2 = min (lsC wa wb TA TB h V a b 1) (nC wa wb TA TB h V a b 1) := lsC_s (c := 1) (by decide)
  have l3 : lsC wa wb TA TB h V a b 3 = min (lsC wa wb TA TB h V a b 2) (nC wa wb TA TB h V a b 2) := lsC_s (c := 2) (by decide)
  have l4 : lsC wa wb TA TB h V a b 4 = min (lsC wa wb TA TB h V a b 3) (nC wa wb TA TB h V a b 3) := lsC_s (c := 3) (by decide)
  clear hE
  by_cases hx : plX wa a = 0 <;> by_cases hy : plX wb b = 0
  · have n0 : nC wa wb TA TB h V a b 0 = 100000 := nC_f (fun z => z.2.2.1 ⟨sgA_0 (by omega), sgB_0 (by omega)⟩)
    have n1 := nC_v (c := 1) (sa := 1) (sb := 0) hB ha.1 hb.1 (by decide) (sgA_1 (by omega)) (sgB_0 (by omega)) (by omega) (by omega) (by decide)
    have n2 := nC_v (c := 2) (sa := 0) (sb := 1) hB ha.1 hb.1 (by decide) (sgA_0 (by omega)) (sgB_1 (by omega)) (by omega) (by omega) (by decide)
    have n3 := nC_v (c := 3) (sa := 1) (sb := 1) hB ha.1 hb.1 (by decide) (sgA_1 (by omega)) (sgB_1 (by omega)) (by omega) (by omega) (by decide)
    clear hB
    omega
  · have v1 : vB wa wb TA TB h V a b 1 0 = 1000000000 := vB_f (fun z => hy (z.2.1 rfl))
    have n0 := nC_v (c := 0) (sa := 0) (sb := 1) hB ha.1 hb.1 (by decide) (sgA_0 (by omega)) (sgB_1 (by omega)) (by omega) (by omega) (by decide)
    have n1 := nC_v (c := 1) (sa := 1) (sb := 1) hB ha.1 hb.1 (by decide) (sgA_1 (by omega)) (sgB_1 (by omega)) (by omega) (by omega) (by decide)
    have n2 : nC wa wb TA TB h V a b 2 = 100000 := nC_f (fun z => hy (z.2.1 (by decide)))
    have n3 : nC wa wb TA TB h V a b 3 = 100000 := nC_f (fun z => hy (z.2.1 (by decide)))
    clear hB
    omega
  · have v1 : vB wa wb TA TB h V a b 0 1 = 1000000000 := vB_f (fun z => hx (z.1 rfl))
    have n0 := nC_v (c := 0) (sa := 1) (sb := 0) hB ha.1 hb.1 (by decide) (sgA_1 (by omega)) (sgB_0 (by omega)) (by omega) (by omega) (by decide)
    have n1 : nC wa wb TA TB h V a b 1 = 100000 := nC_f (fun z => hx (z.1 (by decide)))
    have n2 := nC_v (c := 2) (sa := 1) (sb := 1) hB ha.1 hb.1 (by decide) (sgA_1 (by omega)) (sgB_1 (by omega)) (by omega) (by omega) (by decide)
    have n3 : nC wa wb TA TB h V a b 3 = 100000 := nC_f (fun z => hx (z.1 (by decide)))
    clear hB
    omega
  · have v1 : vB wa wb TA TB h V a b 0 1 = 1000000000 := vB_f (fun z => hx (z.1 rfl))
    have v2 : vB wa wb TA TB h V a b 1 0 = 1000000000 := vB_f (fun z => hy (z.2.1 rfl))
    have n0 := nC_v (c := 0) (sa := 1) (sb := 1) hB ha.1 hb.1 (by decide) (sgA_1 (by omega)) (sgB_1 (by omega)) (by omega) (by omega) (by decide)
    have n1 : nC wa wb TA TB h V a b 1 = 100000 := nC_f (fun z => hx (z.1 (by decide)))
    have n2 : nC wa wb TA TB h V a b 2 = 100000 := nC_f (fun z => hy (z.2.1 (by decide)))
    have n3 : nC wa wb TA TB h V a b 3 = 100000 := nC_f (fun z => hx (z.1 (by decide)))
    clear hB
    omega
end BE
noncomputable def pk (wa wb : Int → Int) (TA TB h : Int) (V : Int → Int → Int) (a b : Int) : Int := if vB wa wb TA TB h V a b 1 1 = V a b - 1 then 3 else if vB wa wb TA TB h V a b 1 0 = V a b - 1 then 1 else 2
def pA (u : Int) : Int := if u = 2 then 0 else 1
def pB (u : Int) : Int := if u = 1 then 0 else 1
def rs (x : Int) : Int := if x = 0 then 1 else 0
noncomputable def ptS (wa wb : Int → Int) (TA TB h : Int) (V : Int → Int → Int) (_ : Int) (s : Int × Int) : Int × Int := (s.1 + pA (pk wa wb TA TB h V s.1 s.2), s.2 + pB (pk wa wb TA TB h V s.1 s.2))
noncomputable def ptI (wa wb : Int → Int) (TA TB h : Int) (V : Int → Int → Int) (m : Int) : Int × Int := iterI (ptS wa wb TA TB h V) m (0, 0)
noncomputable def bgF (wa wb : Int → Int) (TA TB h : Int) (V : Int → Int → Int) (a b : Int) : Int := rs (plX wa a) * pA (pk wa wb TA TB h V a b) + 2 * rs (plX wb b) * pB (pk wa wb TA TB h V a b)
section PK
variable {wa wb : Int → Int} {TA TB h : Int} {V : Int → Int → Int} {a b : Int}
theorem pk_or : (vB wa wb TA TB h V a b 1 1 = V a b - 1 ∧ pk wa wb TA TB h V a b = 3) ∨ (vB wa wb TA TB h V a b 1 1 ≠ V a b - 1 ∧ vB wa wb TA TB h V a b 1 0 = V a b - 1 ∧ pk wa wb TA TB h V a b = 1) ∨ (vB wa wb TA TB h V a b 1 1 ≠ V a b - 1 ∧ vB wa wb TA TB h V a b 1 0 ≠ V a b - 1 ∧ pk wa wb TA TB h V a b = 2) := by
  unfold pk
  split
  · exact Or.inl ⟨by assumption, rfl⟩
  · split
    · exact Or.inr (Or.inl ⟨by assumption, by assumption, rfl⟩)
    · exact Or.inr (Or.inr ⟨by assumption, by assumption, rfl⟩)
theorem pk_min (hB : BEL wa wb TA TB h V) (ha : 0 ≤ a ∧ a ≤ TA) (hb : 0 ≤ b ∧ b ≤ TB) (hT : TA ≤ 90 ∧ TB ≤ 90) (hne : ¬ (a = TA ∧ b = TB)) (hf : V a b ≠ 1000000000) : (vB wa wb TA TB h V a b 1 1 = V a b - 1 ∨ vB wa wb TA TB h V a b 1 0 = V a b - 1 ∨ vB wa wb TA TB h V a b 0 1 = V a b - 1) ∧ 1 ≤ V a b ∧ V a b ≤ 180 := by
  have hv : V a b = min 1000000000 (1 + min (vB wa wb TA TB h V a b 1 1) (min (vB wa wb TA TB h V a b 1 0) (vB wa wb TA TB h V a b 0 1))) := by
    rcases (hB a b ha.1 ha.2 hb.1 hb.2).1 with z | z
    · exact absurd ⟨z.1, z.2.1⟩ hne
    · exact z.2
  have b11 := vB_L (wa := wa) (wb := wb) (h := h) (V := V) (sa := 1) (sb := 1) ha.1 hb.1 (by decide) (fun x y x0 x1 y0 y1 _ _ => (hB x y x0 x1 y0 y1).2)
  have b10 := vB_L (wa := wa) (wb := wb) (h := h) (V := V) (sa := 1) (sb := 0) ha.1 hb.1 (by decide) (fun x y x0 x1 y0 y1 _ _ => (hB x y x0 x1 y0 y1).2)
  have b01 := vB_L (wa := wa) (wb := wb) (h := h) (V := V) (sa := 0) (sb := 1) ha.1 hb.1 (by decide) (fun x y x0 x1 y0 y1 _ _ => (hB x y x0 x1 y0 y1).2)
  omega
theorem pk_good (hB : BEL wa wb TA TB h V) (ha : 0 ≤ a ∧ a ≤ TA) (hb : 0 ≤ b ∧ b ≤ TB) (hT : TA ≤ 90 ∧ TB ≤ 90) (hne : ¬ (a = TA ∧ b = TB)) (hf : V a b ≠ 1000000000) : (0 ≤ a + pA (pk wa wb TA TB h V a b) ∧ a + pA (pk wa wb TA TB h V a b) ≤ TA) ∧ (0 ≤ b + pB (pk wa wb TA TB h V a b) ∧ b + pB (pk wa wb TA TB h V a b) ≤ TB) ∧ V (a + pA (pk wa wb TA TB h V a b)) (b + pB (pk wa wb TA TB h V a b)) = V a b - 1 := by
  have hm := pk_min hB ha hb hT hne hf
  have key : ∀ sa sb, 0 ≤ sa → 0 ≤ sb → vB wa wb TA TB h V a b sa sb = V a b - 1 → (0 ≤ a + sa ∧ a + sa ≤ TA) ∧ (0 ≤ b + sb ∧ b + sb ≤ TB) ∧ V (a + sa) (b + sb) = V a b - 1 := fun sa sb p q e => by
    by_cases z : okB wa wb TA TB h a b sa sb
    · rw [vB_t z] at e
      exact ⟨⟨by omega, z.2.2.1⟩, ⟨by omega, z.2.2.2.1⟩, e⟩
    · rw [vB_f z] at e
      omega
  rcases pk_or (wa := wa) (wb := wb) (TA := TA) (TB := TB) (h := h) (V := V) (a := a) (b := b) with z | z | z
  · rw [z.2]; exact key 1 1 (by decide) (by decide) z.1
  · rw [z.2.2]; exact key 1 0 (by decide) (by decide) z.2.1
  · rw [z.2.2]; exact key 0 1 (by decide) (by decide) (by omega)
theorem pt_0 : ptI wa wb TA TB h V 0 = (0, 0) := rfl
theorem pt_s {m : Int} (hm : 0 ≤ m) : ptI wa wb TA TB h V (m + 1) = ptS wa wb TA TB h V m (ptI wa wb TA TB h V m) := iter_s _ hm _
theorem pt_in (hB : BEL wa wb TA TB h V) (hT : (0 ≤ TA ∧ TA ≤ 90) ∧ 0 ≤ TB ∧ TB ≤ 90) (hf : V 0 0 ≠ 1000000000) : ∀ k : Nat, (k : Int) ≤ V 0 0 → (0 ≤ (ptI wa wb TA TB h V k).1 ∧ (ptI wa wb TA TB h V k).1 ≤ TA) ∧ (0 ≤ (ptI wa wb TA TB h V k).2 ∧ (ptI wa wb TA TB h V k).2 ≤ TB) ∧ V (ptI wa wb TA TB h V k).1 (ptI wa wb TA TB h V k).2 = V 0 0 - k := by
  intro k
  induction k with
  | zero => intro _; exact ⟨⟨Int.le_refl 0, hT.1.1⟩, ⟨Int.le_refl 0, hT.2.1⟩, by show V 0 0 = V 0 0 - ((0 : Nat) : Int); omega⟩
  | succ k ih =>
    intro hk
    have h1 := ih (by omega)
    have h0 := (hB 0 0 (Int.le_refl 0) hT.1.1 (Int.le_refl 0) hT.2.1).2
    have h2 := hB _ _ h1.1.1 h1.1.2 h1.2.1.1 h1.2.1.2
    rw [show ((k + 1 : Nat) : Int) = (k : Int) + 1 by omega, pt_s (by omega)]
    have hne : ¬ ((ptI wa wb TA TB h V k).1 = TA ∧ (ptI wa wb TA TB h V k).2 = TB) := fun z => by
      rcases h2.1 with y | y
      · have := y.2.2; omega
      · exact y.1 z
    unfold belL at h0
    have g := pk_good hB h1.1 h1.2.1 ⟨hT.1.2, hT.2.2⟩ hne (by omega)
    refine ⟨g.1, g.2.1, ?_⟩
    have g2 := g.2.2
    show V ((ptI wa wb TA TB h V k).1 + pA _) ((ptI wa wb TA TB h V k).2 + pB _) = _
    omega
def chF (i : Int) : Int := if i = 0 then 3 else if i = 3 then 0 else i
theorem ch_or {i : Int} : (i = 0 ∧ chF i = 3) ∨ (i = 3 ∧ chF i = 0) ∨ ((i ≠ 0 ∧ i ≠ 3) ∧ chF i = i) := by
  unfold chF
  by_cases h : i = 0
  · rw [if_pos h]; exact Or.inl ⟨h, rfl⟩
  · rw [if_neg h]
    by_cases h2 : i = 3
    · rw [if_pos h2]; exact Or.inr (Or.inl ⟨h2, rfl⟩)
    · rw [if_neg h2]; exact Or.inr (Or.inr ⟨⟨h, h2⟩, rfl⟩)
def gdC (wa wb : Int → Int) (TA TB h : Int) (V : Int → Int → Int) (a b c : Int) : Prop := okH wa wb TA TB h a b c ∧ V (a + sgA c (plX wa a)) (b + sgB c (plX wb b)) = V a b - 1
theorem gd_all (hB : BEL wa wb TA TB h V) (hb : V a b - 1 ≠ 1000000000) : (plX wa a = 0 → plX wb b = 0 → (¬ gdC wa wb TA TB h V a b 0) ∧ (gdC wa wb TA TB h V a b 1 ↔ vB wa wb TA TB h V a b 1 0 = V a b - 1) ∧ (gdC wa wb TA TB h V a b 2 ↔ vB wa wb TA TB h V a b 0 1 = V a b - 1) ∧ (gdC wa wb TA TB h V a b 3 ↔ vB wa wb TA TB h V a b 1 1 = V a b - 1))
    ∧ (plX wa a = 0 → plX wb b ≠ 0 → (gdC wa wb TA TB h V a b 0 ↔ vB wa wb TA TB h V a b 0 1 = V a b - 1) ∧ (gdC wa wb TA TB h V a b 1 ↔ vB wa wb TA TB h V a b 1 1 = V a b - 1) ∧ (¬ gdC wa wb TA TB h V a b 2) ∧ (¬ gdC wa wb TA TB h V a b 3) ∧ vB wa wb TA TB h V a b 1 0 ≠ V a b - 1)
    ∧ (plX wa a ≠ 0 → plX wb b = 0 → (gdC wa wb TA TB h V a b 0 ↔ vB wa wb TA TB h V a b 1 0 = V a b - 1) ∧ (¬ gdC wa wb TA TB h V a b 1) ∧ (gdC wa wb TA TB h V a b 2 ↔ vB wa wb TA TB h V a b 1 1 = V a b - 1) ∧ (¬ gdC wa wb TA TB h V a b 3) ∧ vB wa wb TA TB h V a b 0 1 ≠ V a b - 1)
    ∧ (plX wa a ≠ 0 → plX wb b ≠ 0 → (gdC wa wb TA TB h V a b 0 ↔ vB wa wb TA TB h V a b 1 1 = V a b - 1) ∧ (¬ gdC wa wb TA TB h V a b 1) ∧ (¬ gdC wa wb TA TB h V a b 2) ∧ (¬ gdC wa wb TA TB h V a b 3) ∧ vB wa wb TA TB h V a b 1 0 ≠ V a b - 1 ∧ vB wa wb TA TB h V a b 0 1 ≠ V a b - 1) := by
  unfold gdC
  refine ⟨fun hx hy => ⟨fun z => z.1.2.2.1 ⟨sgA_0 (by omega), sgB_0 (by omega)⟩, ?_, ?_, ?_⟩, fun hx hy => ⟨?_, ?_, fun z => hy (z.1.2.1 (by decide)), fun z => hy (z.1.2.1 (by decide)), ?_⟩, fun hx hy => ⟨?_, fun z => hx (z.1.1 (by decide)), ?_, fun z => hx (z.1.1 (by decide)), ?_⟩, fun hx hy => ⟨?_, fun z => hx (z.1.1 (by decide)), fun z => hy (z.1.2.1 (by decide)), fun z => hx (z.1.1 (by decide)), ?_, ?_⟩⟩
  · exact gd_iff hB hb (sgA_1 (by omega)) (sgB_0 (by omega)) (by omega) (by omega) (by decide)
  · exact gd_iff hB hb (sgA_0 (by omega)) (sgB_1 (by omega)) (by omega) (by omega) (by decide)
  · exact gd_iff hB hb (sgA_1 (by omega)) (sgB_1 (by omega)) (by omega) (by omega) (by decide)
  · exact gd_iff hB hb (sgA_0 (by omega)) (sgB_1 (by omega)) (by omega) (by omega) (by decide)
  · exact gd_iff hB hb (sgA_1 (by omega)) (sgB_1 (by omega)) (by omega) (by omega) (by decide)
  · rw [vB_f (fun z => hy (z.2.1 rfl))]; exact hb.symm
  · exact gd_iff hB hb (sgA_1 (by omega)) (sgB_0 (by omega)) (by omega) (by omega) (by decide)
  · exact gd_iff hB hb (sgA_1 (by omega)) (sgB_1 (by omega)) (by omega) (by omega) (by decide)
  · rw [vB_f (fun z => hx (z.1 rfl))]; exact hb.symm
  · exact gd_iff hB hb (sgA_1 (by omega)) (sgB_1 (by omega)) (by omega) (by omega) (by decide)
  · rw [vB_f (fun z => hy (z.2.1 rfl))]; exact hb.symm
  · rw [vB_f (fun z => hx (z.1 rfl))]; exact hb.symm
end PK
section PR
variable {wa wb : Int → Int} {TA TB h : Int} {V : Int → Int → Int} {a b : Int}
theorem pk_some (hB : BEL wa wb TA TB h V) (ha : 0 ≤ a ∧ a ≤ TA) (hb : 0 ≤ b ∧ b ≤ TB) (hT : TA ≤ 90 ∧ TB ≤ 90) (hne : ¬ (a = TA ∧ b = TB)) (hf : V a b ≠ 1000000000) (hn : ∀ j, 0 ≤ j → j < 4 → ¬ gdC wa wb TA TB h V a b (chF j)) : False := by
  have hm := pk_min hB ha hb hT hne hf
  have hg := gd_all (a := a) (b := b) hB (by omega)
  have n0 := hn 3 (by decide) (by decide)
  have n1 := hn 1 (by decide) (by decide)
  have n2 := hn 2 (by decide) (by decide)
  have n3 := hn 0 (by decide) (by decide)
  rw [show chF 3 = 0 from rfl] at n0
  rw [show chF 1 = 1 from rfl] at n1
  rw [show chF 2 = 2 from rfl] at n2
  rw [show chF 0 = 3 from rfl] at n3
  by_cases hx : plX wa a = 0 <;> by_cases hy : plX wb b = 0
  · obtain ⟨g0, g1, g2, g3⟩ := hg.1 hx hy
    rcases hm.1 with z | z | z
    · exact n3 (g3.mpr z)
    · exact n1 (g1.mpr z)
    · exact n2 (g2.mpr z)
  · obtain ⟨g0, g1, g2, g3, g4⟩ := hg.2.1 hx hy
    rcases hm.1 with z | z | z
    · exact n1 (g1.mpr z)
    · exact g4 z
    · exact n0 (g0.mpr z)
  · obtain ⟨g0, g1, g2, g3, g4⟩ := hg.2.2.1 hx hy
    rcases hm.1 with z | z | z
    · exact n2 (g2.mpr z)
    · exact n0 (g0.mpr z)
    · exact g4 z
  · obtain ⟨g0, g1, g2, g3, g4, g5⟩ := hg.2.2.2 hx hy
    rcases hm.1 with z | z | z
    · exact n0 (g0.mpr z)
    · exact g4 z
    · exact g5 z
theorem rs_0 : rs 0 = 1 := rfl
theorem rs_n {x : Int} (z : x ≠ 0) : rs x = 0 := if_neg z
theorem pk_ref (hB : BEL wa wb TA TB h V) (ha : 0 ≤ a ∧ a ≤ TA) (hb : 0 ≤ b ∧ b ≤ TB) (hT : TA ≤ 90 ∧ TB ≤ 90) (hne : ¬ (a = TA ∧ b = TB)) (hf : V a b ≠ 1000000000) {i : Int} (hi : 0 ≤ i ∧ i ≤ 3) (hgd : gdC wa wb TA TB h V a b (chF i)) (hn : ∀ j, 0 ≤ j → j < i → ¬ gdC wa wb TA TB h V a b (chF j)) :
    chF i = bgF wa wb TA TB h V a b ∧ sgA (chF i) (plX wa a) = pA (pk wa wb TA TB h V a b) ∧ sgB (chF i) (plX wb b) = pB (pk wa wb TA TB h V a b) := by
  have hm := pk_min hB ha hb hT hne hf
  have hg := gd_all (a := a) (b := b) hB (by omega)
  have hk := pk_or (wa := wa) (wb := wb) (TA := TA) (TB := TB) (h := h) (V := V) (a := a) (b := b)
  have ei : i = 0 ∨ i = 1 ∨ i = 2 ∨ i = 3 := by omega
  unfold bgF
  by_cases hx : plX wa a = 0 <;> by_cases hy : plX wb b = 0
  · obtain ⟨g0, g1, g2, g3⟩ := hg.1 hx hy
    clear hg
    rcases ei with ei | ei | ei | ei <;> subst ei
    · have u : pk wa wb TA TB h V a b = 3 := by have := g3.mp hgd; omega
      rw [u, hx, hy]; decide
    · have z3 : ¬ vB wa wb TA TB h V a b 1 1 = V a b - 1 := fun z => hn 0 (by decide) (by decide) (g3.mpr z)
      have u : pk wa wb TA TB h V a b = 1 := by have := g1.mp hgd; omega
      rw [u, hx, hy]; decide
    · have z3 : ¬ vB wa wb TA TB h V a b 1 1 = V a b - 1 := fun z => hn 0 (by decide) (by decide) (g3.mpr z)
      have z1 : ¬ vB wa wb TA TB h V a b 1 0 = V a b - 1 := fun z => hn 1 (by decide) (by decide) (g1.mpr z)
      have u : pk wa wb TA TB h V a b = 2 := by omega
      rw [u, hx, hy]; decide
    · exact absurd hgd g0
  · obtain ⟨g0, g1, g2, g3, g4⟩ := hg.2.1 hx hy
    clear hg
    rcases ei with ei | ei | ei | ei <;> subst ei
    · exact absurd hgd g3
    · have u : pk wa wb TA TB h V a b = 3 := by have := g1.mp hgd; omega
      rw [u, hx, rs_n hy]
      refine ⟨by decide, by decide, ?_⟩
      exact sgB_1 (Or.inr hy)
    · exact absurd hgd g2
    · have z3 : ¬ vB wa wb TA TB h V a b 1 1 = V a b - 1 := fun z => hn 1 (by decide) (by decide) (g1.mpr z)
      have u : pk wa wb TA TB h V a b = 2 := by omega
      rw [u, hx, rs_n hy]
      refine ⟨by decide, by decide, ?_⟩
      exact sgB_1 (Or.inr hy)
  · obtain ⟨g0, g1, g2, g3, g4⟩ := hg.2.2.1 hx hy
    clear hg
    rcases ei with ei | ei | ei | ei <;> subst ei
    · exact absurd hgd g3
    · exact absurd hgd g1
    · have u : pk wa wb TA TB h V a b = 3 := by have := g2.mp hgd; omega
      rw [u, hy, rs_n hx]
      refine ⟨by decide, ?_, by decide⟩
      exact sgA_1 (Or.inr hx)
    · have z3 : ¬ vB wa wb TA TB h V a b 1 1 = V a b - 1 := fun z => hn 2 (by decide) (by decide) (g2.mpr z)
      have u : pk wa wb TA TB h V a b = 1 := by have := g0.mp hgd; omega
      rw [u, hy, rs_n hx]
      refine ⟨by decide, ?_, by decide⟩
      exact sgA_1 (Or.inr hx)
  · obtain ⟨g0, g1, g2, g3, g4, g5⟩ := hg.2.2.2 hx hy
    clear hg
    rcases ei with ei | ei | ei | ei <;> subst ei
    · exact absurd hgd g3
    · exact absurd hgd g1
    · exact absurd hgd g2
    · have u : pk wa wb TA TB h V a b = 3 := by have := g0.mp hgd; omega
      rw [u, rs_n hx, rs_n hy]
      exact ⟨by decide, sgA_1 (Or.inr hx), sgB_1 (Or.inr hy)⟩
theorem st_inj {n0 n1 a' b' : Int} (hA : RWy n0 wa TA) (hB : RWy n1 wb TB) (hn : n0 ≤ 10 ∧ n1 ≤ 10) (ha : 0 ≤ a ∧ a ≤ TA) (hb : 0 ≤ b ∧ b ≤ TB) (ha' : 0 ≤ a' ∧ a' ≤ TA) (hb' : 0 ≤ b' ∧ b' ≤ TB) (e : stW wa wb a b = stW wa wb a' b') : a = a' ∧ b = b' := by
  have k1 := hA.2.2.2 a ha.1 ha.2
  have k2 := hA.2.2.2 a' ha'.1 ha'.2
  have k3 := hB.2.2.2 b hb.1 hb.2
  have k4 := hB.2.2.2 b' hb'.1 hb'.2
  unfold stW at e
  exact ⟨pl_inj hA ha ha' (by omega) (by omega), pl_inj hB hb hb' (by omega) (by omega)⟩
/-- the memo holds nothing wrong -/
def MIF (wa wb : Int → Int) (TA TB : Int) (V : Int → Int → Int) (f : Int → Int) : Prop := ∀ a b, 0 ≤ a → a ≤ TA → 0 ≤ b → b ≤ TB → f (stW wa wb a b) < 0 ∨ f (stW wa wb a b) = dn (V a b)
theorem mi_set {n0 n1 : Int} {f : Int → Int} (hA : RWy n0 wa TA) (hB : RWy n1 wb TB) (hn : n0 ≤ 10 ∧ n1 ≤ 10) (ha : 0 ≤ a ∧ a ≤ TA) (hb : 0 ≤ b ∧ b ≤ TB) (hm : MIF wa wb TA TB V f) : MIF wa wb TA TB V (upA f (stW wa wb a b) (dn (V a b))) := by
  intro x y x0 x1 y0 y1
  by_cases e : stW wa wb x y = stW wa wb a b
  · have := st_inj hA hB hn ⟨x0, x1⟩ ⟨y0, y1⟩ ha hb e
    rw [this.1, this.2, upA_same]
    exact Or.inr rfl
  · rw [upA_ne e]
    exact hm x y x0 x1 y0 y1
theorem st_in {n0 n1 : Int} (hA : RWy n0 wa TA) (hB : RWy n1 wb TB) (hn : n0 ≤ 10 ∧ n1 ≤ 10) (ha : 0 ≤ a ∧ a ≤ TA) (hb : 0 ≤ b ∧ b ≤ TB) : 0 ≤ stW wa wb a b ∧ stW wa wb a b < 12100 := by
  have k1 := hA.2.2.2 a ha.1 ha.2
  have k3 := hB.2.2.2 b hb.1 hb.2
  unfold stW
  omega
theorem st_end {n0 n1 : Int} (hA : RWy n0 wa TA) (hB : RWy n1 wb TB) (hn : n0 ≤ 10 ∧ n1 ≤ 10) (ha : 0 ≤ a ∧ a ≤ TA) (hb : 0 ≤ b ∧ b ≤ TB) : stW wa wb a b = 1100 * n0 + 10 * n1 ↔ (a = TA ∧ b = TB) := by
  have e : stW wa wb TA TB = 1100 * n0 + 10 * n1 := by
    unfold stW
    rw [hA.2.1.1, hA.2.1.2, hB.2.1.1, hB.2.1.2]
    omega
  constructor
  · intro z
    exact st_inj hA hB hn ha hb ⟨hA.1.1, Int.le_refl _⟩ ⟨hB.1.1, Int.le_refl _⟩ (z.trans e.symm)
  · intro z
    rw [z.1, z.2, e]
end PR

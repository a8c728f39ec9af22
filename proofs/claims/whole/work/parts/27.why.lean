noncomputable def whyF (l f a u : Prop) : Int := @ite Int l (Classical.propDecidable l) (@ite Int f (Classical.propDecidable f) (@ite Int a (Classical.propDecidable a) 3 (@ite Int u (Classical.propDecidable u) 4 0)) 2) 1
theorem why_1 {l f a u : Prop} (h : ¬ l) : whyF l f a u = 1 := if_neg h
theorem why_2 {l f a u : Prop} (h : l) (h2 : ¬ f) : whyF l f a u = 2 := (if_pos h).trans (if_neg h2)
theorem why_3 {l f a u : Prop} (h : l) (h2 : f) (h3 : a) : whyF l f a u = 3 := (if_pos h).trans ((if_pos h2).trans (if_pos h3))
theorem why_4 {l f a u : Prop} (h : l) (h2 : f) (h3 : ¬ a) (h4 : u) : whyF l f a u = 4 := (if_pos h).trans ((if_pos h2).trans ((if_neg h3).trans (if_pos h4)))
theorem why_0 {l f a u : Prop} (h : l) (h2 : f) (h3 : ¬ a) (h4 : ¬ u) : whyF l f a u = 0 := (if_pos h).trans ((if_pos h2).trans ((if_neg h3).trans (if_neg h4)))
theorem why_eq {l f a u l1 f1 a1 u1 : Prop} (h1 : l ↔ l1) (h2 : l1 → (f ↔ f1)) (h3 : a ↔ a1) (h4 : u ↔ u1) : whyF l f a u = whyF l1 f1 a1 u1 := by
  rw [propext h1, propext h3, propext h4]
  by_cases e : l1
  · rw [propext (h2 e)]
  · rw [why_1 e, why_1 e]
theorem absI_max {a : Int} (h : -2147483648 < a ∧ a < 2147483648) : absI a = max a (-a) := by
  rw [absI_id h]
  split <;> omega
noncomputable def sameV (k y : Int) (c : Prop) : Int := if k = 1 then y else if y = 0 then 1 + b2i c else 0
theorem same_1 {y : Int} {c : Prop} : sameV 1 y c = y := if_pos rfl
theorem same_n {k y : Int} {c : Prop} (hk : k ≠ 1) (h : y ≠ 0) : sameV k y c = 0 := (if_neg hk).trans (if_neg h)
theorem same_t {k y : Int} {c : Prop} (hk : k ≠ 1) (h : y = 0) (hc : c) : sameV k y c = 2 := (if_neg hk).trans ((if_pos h).trans (by rw [b2i_t hc]; rfl))
theorem same_f {k y : Int} {c : Prop} (hk : k ≠ 1) (h : y = 0) (hc : ¬ c) : sameV k y c = 1 := (if_neg hk).trans ((if_pos h).trans (by rw [b2i_f hc]; rfl))
def zeC (G : PH) (a b : Int) : Int := if (gA G 47 0 (a)) = 0 then a else b
def onC (G : PH) (a b : Int) : Int := if (gA G 47 0 (a)) = 0 then b else a
def fit1C (G : PH) (z o j : Int) : Prop := (gA G 49 (z) (j)) = 27 ∨ (gA G 49 (o) (j)) = 27 ∨ (gA G 53 0 ((gA G 49 (z) (j)) * 28 + (gA G 49 (o) (j)))) ≠ 0
def lenC (G : PH) (a b : Int) : Prop := (gA G 50 0 (zeC G a b)) = (gA G 50 0 (onC G a b))
def fitC (G : PH) (a b : Int) : Prop := ∀ j, 0 ≤ j → j < (gA G 50 0 (zeC G a b)) → fit1C G (zeC G a b) (onC G a b) j
def ageC (G : PH) (a b k : Int) : Prop := 0 ≤ (gA G 51 0 (a)) ∧ 0 ≤ (gA G 51 0 (b)) ∧ (k < (gA G 51 0 (a)) - (gA G 51 0 (b)) ∨ k < (gA G 51 0 (b)) - (gA G 51 0 (a)))
def untC (G : PH) (a b : Int) : Prop := 0 ≤ (gA G 52 0 (a)) ∧ 0 ≤ (gA G 52 0 (b)) ∧ (gA G 52 0 (a)) ≠ (gA G 52 0 (b))
noncomputable def whyC (G : PH) (a b : Int) : Int := whyF (lenC G a b) (fitC G a b) (ageC G a b 1) (untC G a b)
def whoC (G : PH) (a : Int) : Prop := (∀ j, 0 ≤ j → j < (gA G 50 0 (a)) → (gA G 49 (a) (j)) ≠ 27) ∧ 0 ≤ (gA G 51 0 (a)) ∧ 0 ≤ (gA G 52 0 (a))
def surC (G : PH) (a b : Int) : Prop := (gA G 47 0 (a)) ≠ (gA G 47 0 (b)) ∧ whoC G a ∧ whoC G b ∧ whyC G a b = 0
def aptC (G : PH) (a b : Int) : Prop := ((gA G 47 0 (a)) ≠ (gA G 47 0 (b)) ∧ whyC G a b ≠ 0) ∨ ((gA G 47 0 (a)) = (gA G 47 0 (b)) ∧ (ageC G a b 2 ∨ untC G a b))
def rowsC (G : PH) : Prop := ∀ r, 0 ≤ r → r < (gF G 5 0 0) → (0 ≤ (gA G 50 0 (r)) ∧ (gA G 50 0 (r)) ≤ 5) ∧ (∀ j, 0 ≤ j → j < 5 → 0 ≤ (gA G 49 (r) (j)) ∧ (gA G 49 (r) (j)) ≤ 27) ∧ (-1 ≤ (gA G 51 0 (r)) ∧ (gA G 51 0 (r)) ≤ 99) ∧ -1 ≤ (gA G 52 0 (r)) ∧ (gA G 52 0 (r)) ≤ 99
def zeM (G : PH) (a b : Int) : Int := if (gA G 236 0 (a)) = 0 then a else b
def onM (G : PH) (a b : Int) : Int := if (gA G 236 0 (a)) = 0 then b else a
def fit1M (G : PH) (z o j : Int) : Prop := lft (gA G 237 0 (z)) j % 28 = 27 ∨ lft (gA G 237 0 (o)) j % 28 = 27 ∨ (gA G 240 0 (27 * (lft (gA G 237 0 (z)) j % 28) + lft (gA G 237 0 (o)) j % 28)) ≠ 0
def lenM (G : PH) (ln : Int → Int) (a b : Int) : Prop := ln (zeM G a b) = ln (onM G a b)
def fitM (G : PH) (ln : Int → Int) (a b : Int) : Prop := ∀ j, 0 ≤ j → j < ln (zeM G a b) → fit1M G (zeM G a b) (onM G a b) j
def red1M (G : PH) (z o j : Int) : Prop := lft (gA G 237 0 (z)) j % 28 ≠ 27 ∧ lft (gA G 237 0 (o)) j % 28 ≠ 27
def redM (G : PH) (ln : Int → Int) (a b : Int) : Prop := ∀ j, 0 ≤ j → j < ln (zeM G a b) → red1M G (zeM G a b) (onM G a b) j
def ageM (G : PH) (a b k : Int) : Prop := 0 ≤ (gA G 238 0 (a)) ∧ 0 ≤ (gA G 238 0 (b)) ∧ ¬ (-k ≤ (gA G 238 0 (a)) - (gA G 238 0 (b)) ∧ (gA G 238 0 (a)) - (gA G 238 0 (b)) ≤ k)
def untM (G : PH) (a b : Int) : Prop := 0 ≤ (gA G 239 0 (a)) ∧ 0 ≤ (gA G 239 0 (b)) ∧ (gA G 239 0 (a)) ≠ (gA G 239 0 (b))
noncomputable def whyM (G : PH) (ln : Int → Int) (a b : Int) : Int := whyF (lenM G ln a b) (fitM G ln a b) (ageM G (zeM G a b) (onM G a b) 1) (untM G (zeM G a b) (onM G a b))
def whoM (G : PH) (ln : Int → Int) (a b : Int) : Prop := redM G ln a b ∧ 0 ≤ (gA G 238 0 (a)) ∧ 0 ≤ (gA G 238 0 (b)) ∧ 0 ≤ (gA G 239 0 (a)) ∧ 0 ≤ (gA G 239 0 (b))
noncomputable def samM (G : PH) (ln : Int → Int) (k a b : Int) : Int := sameV k (whyM G ln a b) (whoM G ln a b)
def surM (G : PH) (ln : Int → Int) (a b : Int) : Prop := (gA G 236 0 (a)) ≠ (gA G 236 0 (b)) ∧ samM G ln 0 a b = 2
def aptM (G : PH) (ln : Int → Int) (a b : Int) : Prop := ((gA G 236 0 (a)) ≠ (gA G 236 0 (b)) ∧ whyM G ln a b ≠ 0) ∨ ((gA G 236 0 (a)) = (gA G 236 0 (b)) ∧ (ageM G a b 2 ∨ untM G a b))
def rowsM (G : PH) (ln : Int → Int) : Prop := ∀ r, 0 ≤ r → r < (gF G 12 0 55) → (0 ≤ ln r ∧ ln r ≤ 5 ∧ WordN (gA G 237 0 (r)) (ln r)) ∧ (-1 ≤ (gA G 238 0 (r)) ∧ (gA G 238 0 (r)) ≤ 99) ∧ -1 ≤ (gA G 239 0 (r)) ∧ (gA G 239 0 (r)) ≤ 99
/-! reaching -/
def Rch (E : Int → Int → Prop) (n a b : Int) : Prop := ∀ S : Int → Prop, S a → (∀ x y, 0 ≤ x → x < n → 0 ≤ y → y < n → S x → E x y → S y) → S b
theorem Rch_rf {E : Int → Int → Prop} {n a : Int} : Rch E n a a := fun _ h _ => h
theorem Rch_step {E : Int → Int → Prop} {n a x y : Int} (h : Rch E n a x) (x0 : 0 ≤ x) (x1 : x < n) (y0 : 0 ≤ y) (y1 : y < n) (e : E x y) : Rch E n a y := fun S ha hc => hc x y x0 x1 y0 y1 (h S ha hc) e
theorem Rch_tr {E : Int → Int → Prop} {n a b c : Int} (h : Rch E n a b) (h1 : Rch E n b c) : Rch E n a c := fun S ha hc => h1 S (h S ha hc) hc
def symE (E : Int → Int → Prop) (n : Int) : Prop := ∀ x y, 0 ≤ x → x < n → 0 ≤ y → y < n → E x y → E y x
theorem Rch_sym {E : Int → Int → Prop} {n a b : Int} (hs : symE E n) (h : Rch E n a b) : Rch E n b a :=
  h (fun y => Rch E n y a) Rch_rf fun x y x0 x1 y0 y1 hx e => Rch_tr (Rch_step Rch_rf y0 y1 x0 x1 (hs x y x0 x1 y0 y1 e)) hx
theorem Rch_congr {E E1 : Int → Int → Prop} {n a b : Int} (he : ∀ x y, 0 ≤ x → x < n → 0 ≤ y → y < n → (E x y ↔ E1 x y)) : Rch E n a b ↔ Rch E1 n a b :=
  ⟨fun h S ha hc => h S ha fun x y x0 x1 y0 y1 hx e => hc x y x0 x1 y0 y1 hx ((he x y x0 x1 y0 y1).mp e), fun h S ha hc => h S ha fun x y x0 x1 y0 y1 hx e => hc x y x0 x1 y0 y1 hx ((he x y x0 x1 y0 y1).mpr e)⟩
theorem cnt_miss {p : Int → Prop} {n b : Int} (h0 : 0 ≤ b) (h1 : b < n) (hb : ¬ p b) : cnt p n ≤ n - 1 := by
  have h2 := cnt_le p h0
  have h3 : ∀ m, 0 ≤ m → cnt p (b + 1 + m) ≤ b + m := nat_ind (p := fun m => cnt p (b + 1 + m) ≤ b + m) (by rw [show b + 1 + 0 = b + 1 by omega, cnt_f h0 hb]; omega) (fun m hm ih => by
    rw [show b + 1 + (m + 1) = b + 1 + m + 1 by omega, cnt_s p (by omega)]
    have := b2i_01 (p (b + 1 + m))
    omega)
  have h4 := h3 (n - b - 1) (by omega)
  rw [show b + 1 + (n - b - 1) = n by omega] at h4
  omega
theorem cnt_ins {p q : Int → Prop} {n b : Int} (h0 : 0 ≤ b) (h1 : b < n) (hb : ¬ p b) (hq : ∀ x, q x ↔ p x ∨ x = b) : cnt q n = cnt p n + 1 := by
  have hlo : ∀ m, 0 ≤ m → m ≤ b → cnt q m = cnt p m := fun m hm hmb => cnt_congr fun i x y => ⟨fun z => ((hq i).mp z).resolve_right (by omega), fun z => (hq i).mpr (Or.inl z)⟩
  have h3 : ∀ m, 0 ≤ m → cnt q (b + 1 + m) = cnt p (b + 1 + m) + 1 := nat_ind (p := fun m => cnt q (b + 1 + m) = cnt p (b + 1 + m) + 1) (by
    rw [show b + 1 + 0 = b + 1 by omega, cnt_f h0 hb, cnt_t h0 ((hq b).mpr (Or.inr rfl)), hlo b h0 (Int.le_refl _)]) (fun m hm ih => by
    rw [show b + 1 + (m + 1) = b + 1 + m + 1 by omega, cnt_s p (by omega), cnt_s q (by omega), ih, b2i_congr (show q (b + 1 + m) ↔ p (b + 1 + m) from ⟨fun z => ((hq _).mp z).resolve_right (by omega), fun z => (hq _).mpr (Or.inl z)⟩)]
    omega)
  have h4 := h3 (n - b - 1) (by omega)
  rw [show b + 1 + (n - b - 1) = n by omega] at h4
  exact h4
/-! the class's grouping from one row on -/
def BfI (E : Int → Int → Prop) (m : Int) (W : Int → Int) (f i b n : Int) (F R : Int → Int) : Prop :=
  (1 ≤ n ∧ n ≤ m) ∧ F f = f ∧ (∀ x, 0 ≤ x → x < m → F x = W x ∨ (W x = -1 ∧ F x = f ∧ Rch E m f x)) ∧ (∀ j, 0 ≤ j → j < n → 0 ≤ R j ∧ R j < m ∧ F (R j) = f) ∧ (∀ x, 0 ≤ x → x < m → F x = f → ∃ j, 0 ≤ j ∧ j < n ∧ R j = x) ∧
  n = cnt (fun x => F x = f) m ∧ (∀ j y, 0 ≤ j → j < i → 0 ≤ y → y < m → E (R j) y → F y ≠ -1) ∧ ∀ y, 0 ≤ y → y < b → i < n → E (R i) y → F y ≠ -1
def GrW (E : Int → Int → Prop) (m f : Int) (W : Int → Int) : Prop := (0 ≤ f ∧ f < m) ∧ W f = -1 ∧ (∀ a, 0 ≤ a → a < m → W a ≠ -1 → W a ≠ f) ∧ ∀ a b, 0 ≤ a → a < m → 0 ≤ b → b < m → W a ≠ -1 → E a b → W b ≠ -1
theorem BfI_0 {E : Int → Int → Prop} {m f : Int} {W R : Int → Int} (h : GrW E m f W) : BfI E m W f 0 0 1 (upA W f f) (upA R 0 f) := by
  obtain ⟨⟨f0, f1⟩, hf, hw, hc⟩ := h
  have hl : ∀ x, 0 ≤ x → x < m → upA W f f x = f → x = f := fun x x0 x1 e => by
    by_cases z : x = f
    · exact z
    · rw [upA_ne z] at e
      exact absurd e (hw x x0 x1 (by omega))
  refine ⟨by omega, upA_same _ _ _, fun x x0 x1 => ?_, fun j j0 j1 => ?_, fun x x0 x1 e => ⟨0, by omega, by omega, by rw [upA_same]; exact (hl x x0 x1 e).symm⟩, ?_, fun j y a b => by omega, fun y a b => by omega⟩
  · by_cases e : x = f
    · rw [e, upA_same]; exact Or.inr ⟨hf, rfl, Rch_rf⟩
    · rw [upA_ne e]; exact Or.inl rfl
  · rw [show j = 0 by omega, upA_same, upA_same]; exact ⟨f0, f1, rfl⟩
  · have h1 : cnt (fun x => upA W f f x = f) m = cnt (fun _ => False) m + 1 := by
      rw [← cnt_congr (p := fun x => (False ∨ x = f)) (q := fun x => upA W f f x = f) (n := m) (fun x x0 x1 => ⟨fun z => by rcases z with z | z; exact z.elim; rw [z, upA_same], fun z => Or.inr (hl x x0 x1 z)⟩)]
      exact cnt_ins f0 f1 id fun x => Iff.rfl
    have h2 : ∀ k, 0 ≤ k → cnt (fun _ => False) k = 0 := nat_ind (p := fun k => cnt (fun _ => False) k = 0) rfl fun k hk ih => by rw [cnt_f hk id, ih]
    rw [h1, h2 m (by omega)]
    rfl
theorem BfI_take {E : Int → Int → Prop} {m f i b n : Int} {W F R : Int → Int} (hW : GrW E m f W) (h : BfI E m W f i b n F R) (i0 : 0 ≤ i) (i1 : i < n) (b0 : 0 ≤ b) (b1 : b < m) (hb : F b = -1) (he : E (R i) b) : BfI E m W f i (b + 1) (n + 1) (upA F b f) (upA R n b) := by
  obtain ⟨h1, h2, h3, h4, h5, h6, h7, h8⟩ := h
  have f0 := hW.1
  have hbf : b ≠ f := fun e => by rw [e] at hb; omega
  have hcm := cnt_miss (p := fun x => F x = f) b0 b1 (by show ¬ F b = f; omega)
  have hup : ∀ y, F y ≠ -1 → upA F b f y ≠ -1 := fun y hy => by
    unfold upA
    split <;> omega
  refine ⟨by omega, by rw [upA_ne (fun e => hbf e.symm)]; exact h2, fun x x0 x1 => ?_, fun j j0 j1 => ?_, fun x x0 x1 e => ?_, ?_, fun j y j0 j1 y0 y1 e => ?_, fun y y0 y1 _ e => ?_⟩
  · by_cases e : x = b
    · subst e
      rw [upA_same]
      refine Or.inr ⟨?_, rfl, ?_⟩
      · rcases h3 x x0 x1 with z | z
        · rw [← z]; exact hb
        · exact z.1
      · have hr := h4 i i0 i1
        rcases h3 (R i) hr.1 hr.2.1 with z | z
        · exfalso
          rw [hr.2.2] at z
          have := hW.2.2.1 (R i) hr.1 hr.2.1 (by omega)
          omega
        · exact Rch_step z.2.2 hr.1 hr.2.1 x0 x1 he
    · rw [upA_ne e]; exact h3 x x0 x1
  · by_cases e : j = n
    · rw [e, upA_same, upA_same]; exact ⟨b0, b1, rfl⟩
    · rw [upA_ne e]
      have hr := h4 j j0 (by omega)
      exact ⟨hr.1, hr.2.1, by unfold upA; split; rfl; exact hr.2.2⟩
  · by_cases z : x = b
    · exact ⟨n, by omega, by omega, by rw [upA_same]; exact z.symm⟩
    · rw [upA_ne z] at e
      obtain ⟨j, j0, j1, j2⟩ := h5 x x0 x1 e
      exact ⟨j, j0, by omega, by rw [upA_ne (by omega)]; exact j2⟩
  · rw [cnt_ins (p := fun x => F x = f) (q := fun x => upA F b f x = f) b0 b1 (by show ¬ F b = f; omega) (fun x => ?_), ← h6]
    by_cases z : x = b
    · rw [z, upA_same]; exact ⟨fun _ => Or.inr rfl, fun _ => rfl⟩
    · rw [upA_ne z]; exact ⟨fun q => Or.inl q, fun q => q.resolve_right z⟩
  · rw [upA_ne (by omega)] at e
    exact hup y (h7 j y j0 j1 y0 y1 e)
  · rw [upA_ne (by omega)] at e
    by_cases z : y = b
    · rw [z, upA_same]; omega
    · exact hup y (h8 y y0 (by omega) i1 e)
theorem BfI_skip {E : Int → Int → Prop} {m f i b n : Int} {W F R : Int → Int} (h : BfI E m W f i b n F R) (hn : F b ≠ -1 ∨ ¬ E (R i) b) : BfI E m W f i (b + 1) n F R :=
  ⟨h.1, h.2.1, h.2.2.1, h.2.2.2.1, h.2.2.2.2.1, h.2.2.2.2.2.1, h.2.2.2.2.2.2.1, fun y y0 y1 i1 e => by
    by_cases z : y = b
    · rw [z] at e ⊢
      rcases hn with q | q
      · exact q
      · exact absurd e q
    · exact h.2.2.2.2.2.2.2 y y0 (by omega) i1 e⟩
theorem BfI_full {E : Int → Int → Prop} {m f i b n : Int} {W F R : Int → Int} (hW : GrW E m f W) (h : BfI E m W f i b n F R) (b0 : 0 ≤ b) (b1 : b < m) (hb : F b = -1) : n < m := by
  have hcm := cnt_miss (p := fun x => F x = f) b0 b1 (by show ¬ F b = f; have := hW.1; omega)
  have := h.2.2.2.2.2.1
  omega
theorem BfI_next {E : Int → Int → Prop} {m f i b n : Int} {W F R : Int → Int} (h : BfI E m W f i b n F R) (i1 : i < n) (hb : m ≤ b) : BfI E m W f (i + 1) 0 n F R :=
  ⟨h.1, h.2.1, h.2.2.1, h.2.2.2.1, h.2.2.2.2.1, h.2.2.2.2.2.1, fun j y j0 j1 y0 y1 e => by
    by_cases z : j = i
    · rw [z] at e; exact h.2.2.2.2.2.2.2 y y0 (by omega) i1 e
    · exact h.2.2.2.2.2.2.1 j y j0 (by omega) y0 y1 e, fun y a b => by omega⟩
def GrP (E : Int → Int → Prop) (m f : Int) (W F : Int → Int) : Prop := ∀ x, 0 ≤ x → x < m → (F x = f ∧ Rch E m f x) ∨ (¬ Rch E m f x ∧ F x = W x)
theorem BfI_end {E : Int → Int → Prop} {m f i b n : Int} {W F R : Int → Int} (hs : symE E m) (hW : GrW E m f W) (h : BfI E m W f i b n F R) (hi : n ≤ i) : GrP E m f W F := by
  obtain ⟨h1, h2, h3, h4, h5, h6, h7, h8⟩ := h
  have key : ∀ x, Rch E m f x → F x = f := fun x hr => by
    refine hr (fun y => F y = f) h2 fun a y a0 a1 y0 y1 ha e => ?_
    obtain ⟨j, j0, j1, j2⟩ := h5 a a0 a1 ha
    have hy := h7 j y j0 (by omega) y0 y1 (by rw [j2]; exact e)
    rcases h3 y y0 y1 with z | z
    · exfalso
      have hwa := hW.2.2.2 y a y0 y1 a0 a1 (by omega) (hs a y a0 a1 y0 y1 e)
      rcases h3 a a0 a1 with q | q
      · have := hW.2.2.1 a a0 a1 hwa
        omega
      · exact hwa q.1
    · exact z.2.1
  intro x x0 x1
  by_cases e : Rch E m f x
  · exact Or.inl ⟨key x e, e⟩
  · refine Or.inr ⟨e, ?_⟩
    rcases h3 x x0 x1 with z | z
    · exact z
    · exact absurd z.2.2 e
def GaI (E : Int → Int → Prop) (m i : Int) (F : Int → Int) : Prop :=
  (∀ x, 0 ≤ x → x < m → F x = -1 ∨ (0 ≤ F x ∧ F x < i ∧ Rch E m (F x) x)) ∧ (∀ x y, 0 ≤ x → x < m → 0 ≤ y → y < m → Rch E m x y → F x ≠ -1 → F y = F x) ∧ ∀ x, 0 ≤ x → x < i → F x ≠ -1
theorem GaI_0 {E : Int → Int → Prop} {m : Int} {F : Int → Int} (h : ∀ x, 0 ≤ x → x < m → F x = -1) : GaI E m 0 F := ⟨fun x x0 x1 => Or.inl (h x x0 x1), fun x y x0 x1 _ _ _ z => absurd (h x x0 x1) z, fun x a b => by omega⟩
theorem GaI_pre {E : Int → Int → Prop} {m i : Int} {F : Int → Int} (h : GaI E m i F) (i0 : 0 ≤ i) (i1 : i < m) (hf : F i = -1) : GrW E m i F :=
  ⟨⟨i0, i1⟩, hf, fun a a0 a1 z => by rcases h.1 a a0 a1 with q | q <;> omega, fun a b a0 a1 b0 b1 z e => by rw [h.2.1 a b a0 a1 b0 b1 (Rch_step Rch_rf a0 a1 b0 b1 e) z]; exact z⟩
theorem GaI_take {E : Int → Int → Prop} {m i : Int} {F F1 : Int → Int} (hs : symE E m) (h : GaI E m i F) (i0 : 0 ≤ i) (i1 : i < m) (hp : GrP E m i F F1) : GaI E m (i + 1) F1 := by
  refine ⟨fun x x0 x1 => ?_, fun x y x0 x1 y0 y1 hr hx => ?_, fun x x0 x1 => ?_⟩
  · rcases hp x x0 x1 with ⟨e, r⟩ | ⟨-, e⟩
    · rw [e]; exact Or.inr ⟨i0, by omega, r⟩
    · rw [e]; exact (h.1 x x0 x1).imp id fun z => ⟨z.1, by omega, z.2.2⟩
  · rcases hp x x0 x1 with ⟨e, r⟩ | ⟨r, e⟩
    · rcases hp y y0 y1 with ⟨e2, r2⟩ | ⟨r2, e2⟩
      · rw [e, e2]
      · exact absurd (Rch_tr r hr) r2
    · rcases hp y y0 y1 with ⟨e2, r2⟩ | ⟨r2, e2⟩
      · exact absurd (Rch_tr r2 (Rch_sym hs hr)) r
      · rw [e, e2]; exact h.2.1 x y x0 x1 y0 y1 hr (by rw [← e]; exact hx)
  · rcases hp x x0 (by omega) with ⟨e, r⟩ | ⟨r, e⟩
    · omega
    · rw [e]
      by_cases z : x = i
      · rw [z] at r; exact absurd Rch_rf r
      · exact h.2.2 x x0 (by omega)
theorem GaI_skip {E : Int → Int → Prop} {m i : Int} {F : Int → Int} (h : GaI E m i F) (hf : F i ≠ -1) : GaI E m (i + 1) F :=
  ⟨fun x x0 x1 => (h.1 x x0 x1).imp id fun z => ⟨z.1, by omega, z.2.2⟩, h.2.1, fun x x0 x1 => by
    by_cases z : x = i
    · rw [z]; exact hf
    · exact h.2.2 x x0 (by omega)⟩
def GrA (E : Int → Int → Prop) (m : Int) (F : Int → Int) : Prop := ∀ a b, 0 ≤ a → a < m → 0 ≤ b → b < m → (F a = F b ↔ Rch E m a b)
theorem GaI_end {E : Int → Int → Prop} {m i : Int} {F : Int → Int} (hs : symE E m) (h : GaI E m i F) (hi : m ≤ i) : GrA E m F := fun a b a0 a1 b0 b1 => by
  have ha := h.2.2 a a0 (by omega)
  have hb := h.2.2 b b0 (by omega)
  refine ⟨fun e => ?_, fun e => (h.2.1 a b a0 a1 b0 b1 e ha).symm⟩
  rcases h.1 a a0 a1 with q | q
  · exact absurd q ha
  · rcases h.1 b b0 b1 with q2 | q2
    · exact absurd q2 hb
    · have r2 := q2.2.2
      rw [← e] at r2
      exact Rch_tr (Rch_sym hs q.2.2) r2

theorem wd_m5_86 : Cond.methodLink "NameRolls$Rolls" 86 Lib.Math.abs.name ∈ UW := UW5_at 110 (by decide +kernel) rfl
theorem wd_m5_79 : Cond.methodLink "NameRolls$Rolls" 79 M_X5_agesDiffer.1 ∈ UW := UW5_at 106 (by decide +kernel) rfl
theorem wd_s5_agesDiffer : Cond.selects M_X5_agesDiffer.1.cls M_X5_agesDiffer.1 M_X5_agesDiffer.1 ∈ UW := UWp_at 23 (by decide +kernel) rfl
theorem wd_m5_82 : Cond.methodLink "NameRolls$Rolls" 82 M_X5_unitsDiffer.1 ∈ UW := UW5_at 113 (by decide +kernel) rfl
theorem wd_s5_unitsDiffer : Cond.selects M_X5_unitsDiffer.1.cls M_X5_unitsDiffer.1 M_X5_unitsDiffer.1 ∈ UW := UWp_at 24 (by decide +kernel) rfl
theorem wd_m5_69 : Cond.methodLink "NameRolls$Rolls" 69 M_X5_isRow.1 ∈ UW := UW5_at 98 (by decide +kernel) rfl
theorem wd_s5_isRow : Cond.selects M_X5_isRow.1.cls M_X5_isRow.1 M_X5_isRow.1 ∈ UW := UWp_at 21 (by decide +kernel) rfl
theorem wd_m5_72 : Cond.methodLink "NameRolls$Rolls" 72 M_X5_whyApart.1 ∈ UW := UW5_at 102 (by decide +kernel) rfl
theorem wd_s5_whyApart : Cond.selects M_X5_whyApart.1.cls M_X5_whyApart.1 M_X5_whyApart.1 ∈ UW := UWp_at 22 (by decide +kernel) rfl
theorem wd_m5_76 : Cond.methodLink "NameRolls$Rolls" 76 M_X5_isWhole.1 ∈ UW := UW5_at 117 (by decide +kernel) rfl
theorem wd_s5_isWhole : Cond.selects M_X5_isWhole.1.cls M_X5_isWhole.1 M_X5_isWhole.1 ∈ UW := UWp_at 25 (by decide +kernel) rfl
theorem wd_m12_405 : Cond.methodLink "NameRollsModel" 405 M_X12_lengthOf.1 ∈ UW := UW9_at 172 (by decide +kernel) rfl
theorem wd_f12_408 : Cond.fieldLink "NameRollsModel" 408 "NameRollsModel" "isRead" "Z" ∈ UW := UW7_at 126 (by decide +kernel) rfl
theorem wd_m12_412 : Cond.methodLink "NameRollsModel" 412 M_X12_why.1 ∈ UW := UW9_at 168 (by decide +kernel) rfl
theorem wd_s12_why : Cond.selects M_X12_why.1.cls M_X12_why.1 M_X12_why.1 ∈ UW := UWp_at 89 (by decide +kernel) rfl
theorem wd_m12_415 : Cond.methodLink "NameRollsModel" 415 M_X12_isRow.1 ∈ UW := UW9_at 160 (by decide +kernel) rfl
theorem wd_s12_isRow : Cond.selects M_X12_isRow.1.cls M_X12_isRow.1 M_X12_isRow.1 ∈ UW := UWp_at 87 (by decide +kernel) rfl
theorem wd_m12_418 : Cond.methodLink "NameRollsModel" 418 M_X12_sameOf.1 ∈ UW := UW9_at 164 (by decide +kernel) rfl
theorem wd_s12_sameOf : Cond.selects M_X12_sameOf.1.cls M_X12_sameOf.1 M_X12_sameOf.1 ∈ UW := UWp_at 88 (by decide +kernel) rfl
theorem wd_m11_166 : Cond.methodLink "NameRolls" 166 M_X5_tellSame.1 ∈ UW := UW5_at 94 (by decide +kernel) rfl
theorem wd_s5_tellSame : Cond.selects M_X5_tellSame.1.cls M_X5_tellSame.1 M_X5_tellSame.1 ∈ UW := UW5_at 96 (by decide +kernel) rfl
theorem r_5_isRow_0 : RL M_X5_isRow 0 1 1 := Or.inl ⟨1, by decide +kernel, rfl, rfl⟩
theorem r_5_isRow_1 : RB M_X5_isRow 1 (.ifCond .lt) 22 4 := ⟨21, by decide +kernel, rfl, rfl⟩
theorem r_5_isRow_22 : RC M_X5_isRow 22 0 23 := ⟨⟨by decide, by decide⟩, Or.inl ⟨by decide +kernel, rfl⟩⟩
theorem r_5_isRow_23 : RW M_X5_isRow 23 .ireturn 24 1 := ⟨by decide +kernel, rfl⟩
theorem r_5_isRow_4 : RL M_X5_isRow 4 1 5 := Or.inl ⟨1, by decide +kernel, rfl, rfl⟩
theorem r_5_isRow_5 : RA M_X5_isRow 5 0 6 := Or.inl ⟨0, by decide +kernel, rfl, rfl⟩
theorem r_5_isRow_6 : RG M_X5_isRow 6 5 0 9 := ⟨54, _, by decide +kernel, rfl, by decide, wd_f5_54, rfl, rfl⟩
theorem r_5_isRow_9 : RB M_X5_isRow 9 (.if_icmp .ge) 22 12 := ⟨13, by decide +kernel, rfl, rfl⟩
theorem r_5_isRow_12 : RL M_X5_isRow 12 1 13 := Or.inl ⟨1, by decide +kernel, rfl, rfl⟩
theorem r_5_isRow_13 : RC M_X5_isRow 13 100 15 := ⟨⟨by decide, by decide⟩, Or.inr (Or.inl ⟨by decide +kernel, by decide, rfl⟩)⟩
theorem r_5_isRow_15 : RB M_X5_isRow 15 (.if_icmp .ge) 22 18 := ⟨7, by decide +kernel, rfl, rfl⟩
theorem r_5_isRow_18 : RC M_X5_isRow 18 1 19 := ⟨⟨by decide, by decide⟩, Or.inl ⟨by decide +kernel, rfl⟩⟩
theorem r_5_isRow_19 : RB M_X5_isRow 19 .goto 23 22 := ⟨4, by decide +kernel, rfl, rfl⟩
theorem r_12_isRow_0 : RL M_X12_isRow 0 1 1 := Or.inl ⟨1, by decide +kernel, rfl, rfl⟩
theorem r_12_isRow_1 : RB M_X12_isRow 1 (.ifCond .lt) 16 4 := ⟨15, by decide +kernel, rfl, rfl⟩
theorem r_12_isRow_16 : RC M_X12_isRow 16 0 17 := ⟨⟨by decide, by decide⟩, Or.inl ⟨by decide +kernel, rfl⟩⟩
theorem r_12_isRow_17 : RW M_X12_isRow 17 .ireturn 18 1 := ⟨by decide +kernel, rfl⟩
theorem r_12_isRow_4 : RL M_X12_isRow 4 1 5 := Or.inl ⟨1, by decide +kernel, rfl, rfl⟩
theorem r_12_isRow_5 : RA M_X12_isRow 5 0 6 := Or.inl ⟨0, by decide +kernel, rfl, rfl⟩
theorem r_12_isRow_6 : RG M_X12_isRow 6 12 55 9 := ⟨396, _, by decide +kernel, rfl, by decide, wd_f12_396, rfl, rfl⟩
theorem r_12_isRow_9 : RB M_X12_isRow 9 (.if_icmp .ge) 16 12 := ⟨7, by decide +kernel, rfl, rfl⟩
theorem r_12_isRow_12 : RC M_X12_isRow 12 1 13 := ⟨⟨by decide, by decide⟩, Or.inl ⟨by decide +kernel, rfl⟩⟩
theorem r_12_isRow_13 : RB M_X12_isRow 13 .goto 17 16 := ⟨4, by decide +kernel, rfl, rfl⟩
theorem r_5_agesDiffer_0 : RA M_X5_agesDiffer 0 0 1 := Or.inl ⟨0, by decide +kernel, rfl, rfl⟩
theorem r_5_agesDiffer_1 : RG M_X5_agesDiffer 1 5 4 4 := ⟨23, _, by decide +kernel, rfl, by decide, wd_f5_23, rfl, rfl⟩
theorem r_5_agesDiffer_4 : RL M_X5_agesDiffer 4 1 5 := Or.inl ⟨1, by decide +kernel, rfl, rfl⟩
theorem r_5_agesDiffer_5 : RW M_X5_agesDiffer 5 .iaload 6 1 := ⟨by decide +kernel, rfl⟩
theorem r_5_agesDiffer_6 : RB M_X5_agesDiffer 6 (.ifCond .lt) 42 9 := ⟨36, by decide +kernel, rfl, rfl⟩
theorem r_5_agesDiffer_42 : RC M_X5_agesDiffer 42 0 43 := ⟨⟨by decide, by decide⟩, Or.inl ⟨by decide +kernel, rfl⟩⟩
theorem r_5_agesDiffer_43 : RW M_X5_agesDiffer 43 .ireturn 44 1 := ⟨by decide +kernel, rfl⟩
theorem r_5_agesDiffer_9 : RA M_X5_agesDiffer 9 0 10 := Or.inl ⟨0, by decide +kernel, rfl, rfl⟩
theorem r_5_agesDiffer_10 : RG M_X5_agesDiffer 10 5 4 13 := ⟨23, _, by decide +kernel, rfl, by decide, wd_f5_23, rfl, rfl⟩
theorem r_5_agesDiffer_13 : RL M_X5_agesDiffer 13 2 14 := Or.inl ⟨2, by decide +kernel, rfl, rfl⟩
theorem r_5_agesDiffer_14 : RW M_X5_agesDiffer 14 .iaload 15 1 := ⟨by decide +kernel, rfl⟩
theorem r_5_agesDiffer_15 : RB M_X5_agesDiffer 15 (.ifCond .lt) 42 18 := ⟨27, by decide +kernel, rfl, rfl⟩
theorem r_5_agesDiffer_18 : RA M_X5_agesDiffer 18 0 19 := Or.inl ⟨0, by decide +kernel, rfl, rfl⟩
theorem r_5_agesDiffer_19 : RG M_X5_agesDiffer 19 5 4 22 := ⟨23, _, by decide +kernel, rfl, by decide, wd_f5_23, rfl, rfl⟩
theorem r_5_agesDiffer_22 : RL M_X5_agesDiffer 22 1 23 := Or.inl ⟨1, by decide +kernel, rfl, rfl⟩
theorem r_5_agesDiffer_23 : RW M_X5_agesDiffer 23 .iaload 24 1 := ⟨by decide +kernel, rfl⟩
theorem r_5_agesDiffer_24 : RA M_X5_agesDiffer 24 0 25 := Or.inl ⟨0, by decide +kernel, rfl, rfl⟩
theorem r_5_agesDiffer_25 : RG M_X5_agesDiffer 25 5 4 28 := ⟨23, _, by decide +kernel, rfl, by decide, wd_f5_23, rfl, rfl⟩
theorem r_5_agesDiffer_28 : RL M_X5_agesDiffer 28 2 29 := Or.inl ⟨2, by decide +kernel, rfl, rfl⟩
theorem r_5_agesDiffer_29 : RW M_X5_agesDiffer 29 .iaload 30 1 := ⟨by decide +kernel, rfl⟩
theorem r_5_agesDiffer_30 : RW M_X5_agesDiffer 30 .isub 31 1 := ⟨by decide +kernel, rfl⟩
theorem r_5_agesDiffer_31 : RKm M_X5_agesDiffer 31 Lib.Math.abs.name 34 := ⟨86, by decide +kernel, wd_m5_86, rfl⟩
theorem r_5_agesDiffer_34 : RL M_X5_agesDiffer 34 3 35 := Or.inl ⟨3, by decide +kernel, rfl, rfl⟩
theorem r_5_agesDiffer_35 : RB M_X5_agesDiffer 35 (.if_icmp .le) 42 38 := ⟨7, by decide +kernel, rfl, rfl⟩
theorem r_5_agesDiffer_38 : RC M_X5_agesDiffer 38 1 39 := ⟨⟨by decide, by decide⟩, Or.inl ⟨by decide +kernel, rfl⟩⟩
theorem r_5_agesDiffer_39 : RB M_X5_agesDiffer 39 .goto 43 42 := ⟨4, by decide +kernel, rfl, rfl⟩
theorem r_5_unitsDiffer_0 : RA M_X5_unitsDiffer 0 0 1 := Or.inl ⟨0, by decide +kernel, rfl, rfl⟩
theorem r_5_unitsDiffer_1 : RG M_X5_unitsDiffer 1 5 5 4 := ⟨26, _, by decide +kernel, rfl, by decide, wd_f5_26, rfl, rfl⟩
theorem r_5_unitsDiffer_4 : RL M_X5_unitsDiffer 4 1 5 := Or.inl ⟨1, by decide +kernel, rfl, rfl⟩
theorem r_5_unitsDiffer_5 : RW M_X5_unitsDiffer 5 .iaload 6 1 := ⟨by decide +kernel, rfl⟩
theorem r_5_unitsDiffer_6 : RB M_X5_unitsDiffer 6 (.ifCond .lt) 37 9 := ⟨31, by decide +kernel, rfl, rfl⟩
theorem r_5_unitsDiffer_37 : RC M_X5_unitsDiffer 37 0 38 := ⟨⟨by decide, by decide⟩, Or.inl ⟨by decide +kernel, rfl⟩⟩
theorem r_5_unitsDiffer_38 : RW M_X5_unitsDiffer 38 .ireturn 39 1 := ⟨by decide +kernel, rfl⟩
theorem r_5_unitsDiffer_9 : RA M_X5_unitsDiffer 9 0 10 := Or.inl ⟨0, by decide +kernel, rfl, rfl⟩
theorem r_5_unitsDiffer_10 : RG M_X5_unitsDiffer 10 5 5 13 := ⟨26, _, by decide +kernel, rfl, by decide, wd_f5_26, rfl, rfl⟩
theorem r_5_unitsDiffer_13 : RL M_X5_unitsDiffer 13 2 14 := Or.inl ⟨2, by decide +kernel, rfl, rfl⟩
theorem r_5_unitsDiffer_14 : RW M_X5_unitsDiffer 14 .iaload 15 1 := ⟨by decide +kernel, rfl⟩
theorem r_5_unitsDiffer_15 : RB M_X5_unitsDiffer 15 (.ifCond .lt) 37 18 := ⟨22, by decide +kernel, rfl, rfl⟩
theorem r_5_unitsDiffer_18 : RA M_X5_unitsDiffer 18 0 19 := Or.inl ⟨0, by decide +kernel, rfl, rfl⟩
theorem r_5_unitsDiffer_19 : RG M_X5_unitsDiffer 19 5 5 22 := ⟨26, _, by decide +kernel, rfl, by decide, wd_f5_26, rfl, rfl⟩
theorem r_5_unitsDiffer_22 : RL M_X5_unitsDiffer 22 1 23 := Or.inl ⟨1, by decide +kernel, rfl, rfl⟩
theorem r_5_unitsDiffer_23 : RW M_X5_unitsDiffer 23 .iaload 24 1 := ⟨by decide +kernel, rfl⟩
theorem r_5_unitsDiffer_24 : RA M_X5_unitsDiffer 24 0 25 := Or.inl ⟨0, by decide +kernel, rfl, rfl⟩
theorem r_5_unitsDiffer_25 : RG M_X5_unitsDiffer 25 5 5 28 := ⟨26, _, by decide +kernel, rfl, by decide, wd_f5_26, rfl, rfl⟩
theorem r_5_unitsDiffer_28 : RL M_X5_unitsDiffer 28 2 29 := Or.inl ⟨2, by decide +kernel, rfl, rfl⟩
theorem r_5_unitsDiffer_29 : RW M_X5_unitsDiffer 29 .iaload 30 1 := ⟨by decide +kernel, rfl⟩
theorem r_5_unitsDiffer_30 : RB M_X5_unitsDiffer 30 (.if_icmp .eq) 37 33 := ⟨7, by decide +kernel, rfl, rfl⟩
theorem r_5_unitsDiffer_33 : RC M_X5_unitsDiffer 33 1 34 := ⟨⟨by decide, by decide⟩, Or.inl ⟨by decide +kernel, rfl⟩⟩
theorem r_5_unitsDiffer_34 : RB M_X5_unitsDiffer 34 .goto 38 37 := ⟨4, by decide +kernel, rfl, rfl⟩
theorem r_5_isWhole_0 : RC M_X5_isWhole 0 0 1 := ⟨⟨by decide, by decide⟩, Or.inl ⟨by decide +kernel, rfl⟩⟩
theorem r_5_isWhole_1 : RS M_X5_isWhole 1 2 2 := ⟨by decide, Or.inl ⟨2, by decide +kernel, rfl, rfl⟩⟩
theorem r_5_isWhole_2 : RL M_X5_isWhole 2 2 3 := Or.inl ⟨2, by decide +kernel, rfl, rfl⟩
theorem r_5_isWhole_3 : RA M_X5_isWhole 3 0 4 := Or.inl ⟨0, by decide +kernel, rfl, rfl⟩
theorem r_5_isWhole_4 : RG M_X5_isWhole 4 5 3 7 := ⟨20, _, by decide +kernel, rfl, by decide, wd_f5_20, rfl, rfl⟩
theorem r_5_isWhole_7 : RL M_X5_isWhole 7 1 8 := Or.inl ⟨1, by decide +kernel, rfl, rfl⟩
theorem r_5_isWhole_8 : RW M_X5_isWhole 8 .iaload 9 1 := ⟨by decide +kernel, rfl⟩
theorem r_5_isWhole_9 : RB M_X5_isWhole 9 (.if_icmp .ge) 38 12 := ⟨29, by decide +kernel, rfl, rfl⟩
theorem r_5_isWhole_38 : RA M_X5_isWhole 38 0 39 := Or.inl ⟨0, by decide +kernel, rfl, rfl⟩
theorem r_5_isWhole_39 : RG M_X5_isWhole 39 5 4 42 := ⟨23, _, by decide +kernel, rfl, by decide, wd_f5_23, rfl, rfl⟩
theorem r_5_isWhole_42 : RL M_X5_isWhole 42 1 43 := Or.inl ⟨1, by decide +kernel, rfl, rfl⟩
theorem r_5_isWhole_43 : RW M_X5_isWhole 43 .iaload 44 1 := ⟨by decide +kernel, rfl⟩
theorem r_5_isWhole_44 : RB M_X5_isWhole 44 (.ifCond .lt) 60 47 := ⟨16, by decide +kernel, rfl, rfl⟩
theorem r_5_isWhole_60 : RC M_X5_isWhole 60 0 61 := ⟨⟨by decide, by decide⟩, Or.inl ⟨by decide +kernel, rfl⟩⟩
theorem r_5_isWhole_61 : RW M_X5_isWhole 61 .ireturn 62 1 := ⟨by decide +kernel, rfl⟩
theorem r_5_isWhole_47 : RA M_X5_isWhole 47 0 48 := Or.inl ⟨0, by decide +kernel, rfl, rfl⟩
theorem r_5_isWhole_48 : RG M_X5_isWhole 48 5 5 51 := ⟨26, _, by decide +kernel, rfl, by decide, wd_f5_26, rfl, rfl⟩
theorem r_5_isWhole_51 : RL M_X5_isWhole 51 1 52 := Or.inl ⟨1, by decide +kernel, rfl, rfl⟩
theorem r_5_isWhole_52 : RW M_X5_isWhole 52 .iaload 53 1 := ⟨by decide +kernel, rfl⟩
theorem r_5_isWhole_53 : RB M_X5_isWhole 53 (.ifCond .lt) 60 56 := ⟨7, by decide +kernel, rfl, rfl⟩
theorem r_5_isWhole_56 : RC M_X5_isWhole 56 1 57 := ⟨⟨by decide, by decide⟩, Or.inl ⟨by decide +kernel, rfl⟩⟩
theorem r_5_isWhole_57 : RB M_X5_isWhole 57 .goto 61 60 := ⟨4, by decide +kernel, rfl, rfl⟩
theorem r_5_isWhole_12 : RL M_X5_isWhole 12 2 13 := Or.inl ⟨2, by decide +kernel, rfl, rfl⟩
theorem r_5_isWhole_13 : RC M_X5_isWhole 13 5 14 := ⟨⟨by decide, by decide⟩, Or.inl ⟨by decide +kernel, rfl⟩⟩
theorem r_5_isWhole_14 : RB M_X5_isWhole 14 (.if_icmp .ge) 38 17 := ⟨24, by decide +kernel, rfl, rfl⟩
theorem r_5_isWhole_17 : RA M_X5_isWhole 17 0 18 := Or.inl ⟨0, by decide +kernel, rfl, rfl⟩
theorem r_5_isWhole_18 : RG M_X5_isWhole 18 5 2 21 := ⟨17, _, by decide +kernel, rfl, by decide, wd_f5_17, rfl, rfl⟩
theorem r_5_isWhole_21 : RL M_X5_isWhole 21 1 22 := Or.inl ⟨1, by decide +kernel, rfl, rfl⟩
theorem r_5_isWhole_22 : RW M_X5_isWhole 22 .aaload 23 1 := ⟨by decide +kernel, rfl⟩
theorem r_5_isWhole_23 : RL M_X5_isWhole 23 2 24 := Or.inl ⟨2, by decide +kernel, rfl, rfl⟩
theorem r_5_isWhole_24 : RW M_X5_isWhole 24 .iaload 25 1 := ⟨by decide +kernel, rfl⟩
theorem r_5_isWhole_25 : RC M_X5_isWhole 25 27 27 := ⟨⟨by decide, by decide⟩, Or.inr (Or.inl ⟨by decide +kernel, by decide, rfl⟩)⟩
theorem r_5_isWhole_27 : RB M_X5_isWhole 27 (.if_icmp .ne) 32 30 := ⟨5, by decide +kernel, rfl, rfl⟩
theorem r_5_isWhole_32 : RI M_X5_isWhole 32 2 1 35 := ⟨by decide, by decide +kernel, rfl⟩
theorem r_5_isWhole_35 : RB M_X5_isWhole 35 .goto 2 38 := ⟨(-33), by decide +kernel, rfl, rfl⟩
theorem r_5_isWhole_30 : RC M_X5_isWhole 30 0 31 := ⟨⟨by decide, by decide⟩, Or.inl ⟨by decide +kernel, rfl⟩⟩
theorem r_5_isWhole_31 : RW M_X5_isWhole 31 .ireturn 32 1 := ⟨by decide +kernel, rfl⟩
theorem r_5_whyApart_29 : RS M_X5_whyApart 29 4 31 := ⟨by decide, Or.inr ⟨by decide +kernel, rfl⟩⟩
theorem r_5_whyApart_31 : RA M_X5_whyApart 31 0 32 := Or.inl ⟨0, by decide +kernel, rfl, rfl⟩
theorem r_5_whyApart_32 : RG M_X5_whyApart 32 5 3 35 := ⟨20, _, by decide +kernel, rfl, by decide, wd_f5_20, rfl, rfl⟩
theorem r_5_whyApart_35 : RL M_X5_whyApart 35 3 36 := Or.inl ⟨3, by decide +kernel, rfl, rfl⟩
theorem r_5_whyApart_36 : RW M_X5_whyApart 36 .iaload 37 1 := ⟨by decide +kernel, rfl⟩
theorem r_5_whyApart_37 : RA M_X5_whyApart 37 0 38 := Or.inl ⟨0, by decide +kernel, rfl, rfl⟩
theorem r_5_whyApart_38 : RG M_X5_whyApart 38 5 3 41 := ⟨20, _, by decide +kernel, rfl, by decide, wd_f5_20, rfl, rfl⟩
theorem r_5_whyApart_41 : RL M_X5_whyApart 41 4 43 := Or.inr ⟨by decide +kernel, rfl⟩
theorem r_5_whyApart_43 : RW M_X5_whyApart 43 .iaload 44 1 := ⟨by decide +kernel, rfl⟩
theorem r_5_whyApart_44 : RB M_X5_whyApart 44 (.if_icmp .eq) 49 47 := ⟨5, by decide +kernel, rfl, rfl⟩
theorem r_5_whyApart_49 : RC M_X5_whyApart 49 0 50 := ⟨⟨by decide, by decide⟩, Or.inl ⟨by decide +kernel, rfl⟩⟩
theorem r_5_whyApart_50 : RS M_X5_whyApart 50 5 52 := ⟨by decide, Or.inr ⟨by decide +kernel, rfl⟩⟩
theorem r_5_whyApart_52 : RL M_X5_whyApart 52 5 54 := Or.inr ⟨by decide +kernel, rfl⟩
theorem r_5_whyApart_54 : RA M_X5_whyApart 54 0 55 := Or.inl ⟨0, by decide +kernel, rfl, rfl⟩
theorem r_5_whyApart_55 : RG M_X5_whyApart 55 5 3 58 := ⟨20, _, by decide +kernel, rfl, by decide, wd_f5_20, rfl, rfl⟩
theorem r_5_whyApart_58 : RL M_X5_whyApart 58 3 59 := Or.inl ⟨3, by decide +kernel, rfl, rfl⟩
theorem r_5_whyApart_59 : RW M_X5_whyApart 59 .iaload 60 1 := ⟨by decide +kernel, rfl⟩
theorem r_5_whyApart_60 : RB M_X5_whyApart 60 (.if_icmp .ge) 130 63 := ⟨70, by decide +kernel, rfl, rfl⟩
theorem r_5_whyApart_130 : RA M_X5_whyApart 130 0 131 := Or.inl ⟨0, by decide +kernel, rfl, rfl⟩
theorem r_5_whyApart_131 : RL M_X5_whyApart 131 1 132 := Or.inl ⟨1, by decide +kernel, rfl, rfl⟩
theorem r_5_whyApart_132 : RL M_X5_whyApart 132 2 133 := Or.inl ⟨2, by decide +kernel, rfl, rfl⟩
theorem r_5_whyApart_133 : RC M_X5_whyApart 133 1 134 := ⟨⟨by decide, by decide⟩, Or.inl ⟨by decide +kernel, rfl⟩⟩
theorem r_5_whyApart_134 : RKv M_X5_whyApart M_X5_agesDiffer 134 3 5 137 := ⟨79, by decide +kernel, wd_m5_79, ok_M_X5_agesDiffer, wd_s5_agesDiffer, rfl⟩
theorem r_5_whyApart_137 : RB M_X5_whyApart 137 (.ifCond .eq) 142 140 := ⟨5, by decide +kernel, rfl, rfl⟩
theorem r_5_whyApart_142 : RA M_X5_whyApart 142 0 143 := Or.inl ⟨0, by decide +kernel, rfl, rfl⟩
theorem r_5_whyApart_143 : RL M_X5_whyApart 143 1 144 := Or.inl ⟨1, by decide +kernel, rfl, rfl⟩
theorem r_5_whyApart_144 : RL M_X5_whyApart 144 2 145 := Or.inl ⟨2, by decide +kernel, rfl, rfl⟩
theorem r_5_whyApart_145 : RKv M_X5_whyApart M_X5_unitsDiffer 145 2 5 148 := ⟨82, by decide +kernel, wd_m5_82, ok_M_X5_unitsDiffer, wd_s5_unitsDiffer, rfl⟩
theorem r_5_whyApart_148 : RB M_X5_whyApart 148 (.ifCond .eq) 155 151 := ⟨7, by decide +kernel, rfl, rfl⟩
theorem r_5_whyApart_155 : RC M_X5_whyApart 155 0 156 := ⟨⟨by decide, by decide⟩, Or.inl ⟨by decide +kernel, rfl⟩⟩
theorem r_5_whyApart_156 : RW M_X5_whyApart 156 .ireturn 157 1 := ⟨by decide +kernel, rfl⟩
theorem r_5_whyApart_151 : RC M_X5_whyApart 151 4 152 := ⟨⟨by decide, by decide⟩, Or.inl ⟨by decide +kernel, rfl⟩⟩
theorem r_5_whyApart_152 : RB M_X5_whyApart 152 .goto 156 155 := ⟨4, by decide +kernel, rfl, rfl⟩
theorem r_5_whyApart_140 : RC M_X5_whyApart 140 3 141 := ⟨⟨by decide, by decide⟩, Or.inl ⟨by decide +kernel, rfl⟩⟩
theorem r_5_whyApart_141 : RW M_X5_whyApart 141 .ireturn 142 1 := ⟨by decide +kernel, rfl⟩
theorem r_5_whyApart_63 : RL M_X5_whyApart 63 5 65 := Or.inr ⟨by decide +kernel, rfl⟩
theorem r_5_whyApart_65 : RC M_X5_whyApart 65 5 66 := ⟨⟨by decide, by decide⟩, Or.inl ⟨by decide +kernel, rfl⟩⟩
theorem r_5_whyApart_66 : RB M_X5_whyApart 66 (.if_icmp .ge) 130 69 := ⟨64, by decide +kernel, rfl, rfl⟩
theorem r_5_whyApart_69 : RA M_X5_whyApart 69 0 70 := Or.inl ⟨0, by decide +kernel, rfl, rfl⟩
theorem r_5_whyApart_70 : RG M_X5_whyApart 70 5 2 73 := ⟨17, _, by decide +kernel, rfl, by decide, wd_f5_17, rfl, rfl⟩
theorem r_5_whyApart_73 : RL M_X5_whyApart 73 3 74 := Or.inl ⟨3, by decide +kernel, rfl, rfl⟩
theorem r_5_whyApart_74 : RW M_X5_whyApart 74 .aaload 75 1 := ⟨by decide +kernel, rfl⟩
theorem r_5_whyApart_75 : RL M_X5_whyApart 75 5 77 := Or.inr ⟨by decide +kernel, rfl⟩
theorem r_5_whyApart_77 : RW M_X5_whyApart 77 .iaload 78 1 := ⟨by decide +kernel, rfl⟩
theorem r_5_whyApart_78 : RS M_X5_whyApart 78 6 80 := ⟨by decide, Or.inr ⟨by decide +kernel, rfl⟩⟩
theorem r_5_whyApart_80 : RA M_X5_whyApart 80 0 81 := Or.inl ⟨0, by decide +kernel, rfl, rfl⟩
theorem r_5_whyApart_81 : RG M_X5_whyApart 81 5 2 84 := ⟨17, _, by decide +kernel, rfl, by decide, wd_f5_17, rfl, rfl⟩
theorem r_5_whyApart_84 : RL M_X5_whyApart 84 4 86 := Or.inr ⟨by decide +kernel, rfl⟩
theorem r_5_whyApart_86 : RW M_X5_whyApart 86 .aaload 87 1 := ⟨by decide +kernel, rfl⟩
theorem r_5_whyApart_87 : RL M_X5_whyApart 87 5 89 := Or.inr ⟨by decide +kernel, rfl⟩
theorem r_5_whyApart_89 : RW M_X5_whyApart 89 .iaload 90 1 := ⟨by decide +kernel, rfl⟩
theorem r_5_whyApart_90 : RS M_X5_whyApart 90 7 92 := ⟨by decide, Or.inr ⟨by decide +kernel, rfl⟩⟩
theorem r_5_whyApart_92 : RL M_X5_whyApart 92 6 94 := Or.inr ⟨by decide +kernel, rfl⟩
theorem r_5_whyApart_94 : RC M_X5_whyApart 94 27 96 := ⟨⟨by decide, by decide⟩, Or.inr (Or.inl ⟨by decide +kernel, by decide, rfl⟩)⟩
theorem r_5_whyApart_96 : RB M_X5_whyApart 96 (.if_icmp .eq) 124 99 := ⟨28, by decide +kernel, rfl, rfl⟩
theorem r_5_whyApart_124 : RI M_X5_whyApart 124 5 1 127 := ⟨by decide, by decide +kernel, rfl⟩
theorem r_5_whyApart_127 : RB M_X5_whyApart 127 .goto 52 130 := ⟨(-75), by decide +kernel, rfl, rfl⟩
theorem r_5_whyApart_99 : RL M_X5_whyApart 99 7 101 := Or.inr ⟨by decide +kernel, rfl⟩
theorem r_5_whyApart_101 : RC M_X5_whyApart 101 27 103 := ⟨⟨by decide, by decide⟩, Or.inr (Or.inl ⟨by decide +kernel, by decide, rfl⟩)⟩
theorem r_5_whyApart_103 : RB M_X5_whyApart 103 (.if_icmp .eq) 124 106 := ⟨21, by decide +kernel, rfl, rfl⟩
theorem r_5_whyApart_106 : RA M_X5_whyApart 106 0 107 := Or.inl ⟨0, by decide +kernel, rfl, rfl⟩
theorem r_5_whyApart_107 : RG M_X5_whyApart 107 5 6 110 := ⟨29, _, by decide +kernel, rfl, by decide, wd_f5_29, rfl, rfl⟩
theorem r_5_whyApart_110 : RL M_X5_whyApart 110 6 112 := Or.inr ⟨by decide +kernel, rfl⟩
theorem r_5_whyApart_112 : RC M_X5_whyApart 112 28 114 := ⟨⟨by decide, by decide⟩, Or.inr (Or.inl ⟨by decide +kernel, by decide, rfl⟩)⟩
theorem r_5_whyApart_114 : RW M_X5_whyApart 114 .imul 115 1 := ⟨by decide +kernel, rfl⟩
theorem r_5_whyApart_115 : RL M_X5_whyApart 115 7 117 := Or.inr ⟨by decide +kernel, rfl⟩
theorem r_5_whyApart_117 : RW M_X5_whyApart 117 .iadd 118 1 := ⟨by decide +kernel, rfl⟩
theorem r_5_whyApart_118 : RW M_X5_whyApart 118 .baload 119 1 := ⟨by decide +kernel, rfl⟩
theorem r_5_whyApart_119 : RB M_X5_whyApart 119 (.ifCond .ne) 124 122 := ⟨5, by decide +kernel, rfl, rfl⟩
theorem r_5_whyApart_122 : RC M_X5_whyApart 122 2 123 := ⟨⟨by decide, by decide⟩, Or.inl ⟨by decide +kernel, rfl⟩⟩
theorem r_5_whyApart_123 : RW M_X5_whyApart 123 .ireturn 124 1 := ⟨by decide +kernel, rfl⟩
theorem r_5_whyApart_47 : RC M_X5_whyApart 47 1 48 := ⟨⟨by decide, by decide⟩, Or.inl ⟨by decide +kernel, rfl⟩⟩
theorem r_5_whyApart_48 : RW M_X5_whyApart 48 .ireturn 49 1 := ⟨by decide +kernel, rfl⟩
theorem r_5_whyApart_14 : RS M_X5_whyApart 14 3 15 := ⟨by decide, Or.inl ⟨3, by decide +kernel, rfl, rfl⟩⟩
theorem r_5_whyApart_15 : RA M_X5_whyApart 15 0 16 := Or.inl ⟨0, by decide +kernel, rfl, rfl⟩
theorem r_5_whyApart_16 : RG M_X5_whyApart 16 5 1 19 := ⟨11, _, by decide +kernel, rfl, by decide, wd_f5_11, rfl, rfl⟩
theorem r_5_whyApart_19 : RL M_X5_whyApart 19 1 20 := Or.inl ⟨1, by decide +kernel, rfl, rfl⟩
theorem r_5_whyApart_20 : RW M_X5_whyApart 20 .iaload 21 1 := ⟨by decide +kernel, rfl⟩
theorem r_5_whyApart_21 : RB M_X5_whyApart 21 (.ifCond .ne) 28 24 := ⟨7, by decide +kernel, rfl, rfl⟩
theorem r_5_whyApart_28 : RL M_X5_whyApart 28 1 29 := Or.inl ⟨1, by decide +kernel, rfl, rfl⟩
theorem r_5_whyApart_24 : RL M_X5_whyApart 24 2 25 := Or.inl ⟨2, by decide +kernel, rfl, rfl⟩
theorem r_5_whyApart_25 : RB M_X5_whyApart 25 .goto 29 28 := ⟨4, by decide +kernel, rfl, rfl⟩
theorem r_5_whyApart_0 : RA M_X5_whyApart 0 0 1 := Or.inl ⟨0, by decide +kernel, rfl, rfl⟩
theorem r_5_whyApart_1 : RG M_X5_whyApart 1 5 1 4 := ⟨11, _, by decide +kernel, rfl, by decide, wd_f5_11, rfl, rfl⟩
theorem r_5_whyApart_4 : RL M_X5_whyApart 4 1 5 := Or.inl ⟨1, by decide +kernel, rfl, rfl⟩
theorem r_5_whyApart_5 : RW M_X5_whyApart 5 .iaload 6 1 := ⟨by decide +kernel, rfl⟩
theorem r_5_whyApart_6 : RB M_X5_whyApart 6 (.ifCond .ne) 13 9 := ⟨7, by decide +kernel, rfl, rfl⟩
theorem r_5_whyApart_13 : RL M_X5_whyApart 13 2 14 := Or.inl ⟨2, by decide +kernel, rfl, rfl⟩
theorem r_5_whyApart_9 : RL M_X5_whyApart 9 1 10 := Or.inl ⟨1, by decide +kernel, rfl, rfl⟩
theorem r_5_whyApart_10 : RB M_X5_whyApart 10 .goto 14 13 := ⟨4, by decide +kernel, rfl, rfl⟩
theorem r_5_tellSame_0 : RA M_X5_tellSame 0 0 1 := Or.inl ⟨0, by decide +kernel, rfl, rfl⟩
theorem r_5_tellSame_1 : RL M_X5_tellSame 1 1 2 := Or.inl ⟨1, by decide +kernel, rfl, rfl⟩
theorem r_5_tellSame_2 : RKv M_X5_tellSame M_X5_isRow 2 1 5 5 := ⟨69, by decide +kernel, wd_m5_69, ok_M_X5_isRow, wd_s5_isRow, rfl⟩
theorem r_5_tellSame_5 : RB M_X5_tellSame 5 (.ifCond .eq) 40 8 := ⟨35, by decide +kernel, rfl, rfl⟩
theorem r_5_tellSame_40 : RC M_X5_tellSame 40 (-1) 41 := ⟨⟨by decide, by decide⟩, Or.inl ⟨by decide +kernel, rfl⟩⟩
theorem r_5_tellSame_41 : RW M_X5_tellSame 41 .ireturn 42 1 := ⟨by decide +kernel, rfl⟩
theorem r_5_tellSame_8 : RA M_X5_tellSame 8 0 9 := Or.inl ⟨0, by decide +kernel, rfl, rfl⟩
theorem r_5_tellSame_9 : RL M_X5_tellSame 9 2 10 := Or.inl ⟨2, by decide +kernel, rfl, rfl⟩
theorem r_5_tellSame_10 : RKv M_X5_tellSame M_X5_isRow 10 1 5 13 := ⟨69, by decide +kernel, wd_m5_69, ok_M_X5_isRow, wd_s5_isRow, rfl⟩
theorem r_5_tellSame_13 : RB M_X5_tellSame 13 (.ifCond .eq) 40 16 := ⟨27, by decide +kernel, rfl, rfl⟩
theorem r_5_tellSame_16 : RA M_X5_tellSame 16 0 17 := Or.inl ⟨0, by decide +kernel, rfl, rfl⟩
theorem r_5_tellSame_17 : RG M_X5_tellSame 17 5 1 20 := ⟨11, _, by decide +kernel, rfl, by decide, wd_f5_11, rfl, rfl⟩
theorem r_5_tellSame_20 : RL M_X5_tellSame 20 1 21 := Or.inl ⟨1, by decide +kernel, rfl, rfl⟩
theorem r_5_tellSame_21 : RW M_X5_tellSame 21 .iaload 22 1 := ⟨by decide +kernel, rfl⟩
theorem r_5_tellSame_22 : RA M_X5_tellSame 22 0 23 := Or.inl ⟨0, by decide +kernel, rfl, rfl⟩
theorem r_5_tellSame_23 : RG M_X5_tellSame 23 5 1 26 := ⟨11, _, by decide +kernel, rfl, by decide, wd_f5_11, rfl, rfl⟩
theorem r_5_tellSame_26 : RL M_X5_tellSame 26 2 27 := Or.inl ⟨2, by decide +kernel, rfl, rfl⟩
theorem r_5_tellSame_27 : RW M_X5_tellSame 27 .iaload 28 1 := ⟨by decide +kernel, rfl⟩
theorem r_5_tellSame_28 : RB M_X5_tellSame 28 (.if_icmp .eq) 40 31 := ⟨12, by decide +kernel, rfl, rfl⟩
theorem r_5_tellSame_31 : RL M_X5_tellSame 31 3 32 := Or.inl ⟨3, by decide +kernel, rfl, rfl⟩
theorem r_5_tellSame_32 : RC M_X5_tellSame 32 0 33 := ⟨⟨by decide, by decide⟩, Or.inl ⟨by decide +kernel, rfl⟩⟩
theorem r_5_tellSame_33 : RC M_X5_tellSame 33 1 34 := ⟨⟨by decide, by decide⟩, Or.inl ⟨by decide +kernel, rfl⟩⟩
theorem r_5_tellSame_34 : RKs M_X5_tellSame M_X11_within 34 3 37 := ⟨65, by decide +kernel, Or.inr (by decide +kernel), ok_M_X11_within, rfl⟩
theorem r_5_tellSame_37 : RB M_X5_tellSame 37 (.ifCond .ne) 42 40 := ⟨5, by decide +kernel, rfl, rfl⟩
theorem r_5_tellSame_42 : RA M_X5_tellSame 42 0 43 := Or.inl ⟨0, by decide +kernel, rfl, rfl⟩
theorem r_5_tellSame_43 : RL M_X5_tellSame 43 1 44 := Or.inl ⟨1, by decide +kernel, rfl, rfl⟩
theorem r_5_tellSame_44 : RL M_X5_tellSame 44 2 45 := Or.inl ⟨2, by decide +kernel, rfl, rfl⟩
theorem r_5_tellSame_45 : RKv M_X5_tellSame M_X5_whyApart 45 2 5 48 := ⟨72, by decide +kernel, wd_m5_72, ok_M_X5_whyApart, wd_s5_whyApart, rfl⟩
theorem r_5_tellSame_48 : RS M_X5_tellSame 48 4 50 := ⟨by decide, Or.inr ⟨by decide +kernel, rfl⟩⟩
theorem r_5_tellSame_50 : RL M_X5_tellSame 50 3 51 := Or.inl ⟨3, by decide +kernel, rfl, rfl⟩
theorem r_5_tellSame_51 : RC M_X5_tellSame 51 1 52 := ⟨⟨by decide, by decide⟩, Or.inl ⟨by decide +kernel, rfl⟩⟩
theorem r_5_tellSame_52 : RB M_X5_tellSame 52 (.if_icmp .ne) 58 55 := ⟨6, by decide +kernel, rfl, rfl⟩
theorem r_5_tellSame_58 : RL M_X5_tellSame 58 4 60 := Or.inr ⟨by decide +kernel, rfl⟩
theorem r_5_tellSame_60 : RB M_X5_tellSame 60 (.ifCond .eq) 65 63 := ⟨5, by decide +kernel, rfl, rfl⟩
theorem r_5_tellSame_65 : RA M_X5_tellSame 65 0 66 := Or.inl ⟨0, by decide +kernel, rfl, rfl⟩
theorem r_5_tellSame_66 : RL M_X5_tellSame 66 1 67 := Or.inl ⟨1, by decide +kernel, rfl, rfl⟩
theorem r_5_tellSame_67 : RKv M_X5_tellSame M_X5_isWhole 67 1 5 70 := ⟨76, by decide +kernel, wd_m5_76, ok_M_X5_isWhole, wd_s5_isWhole, rfl⟩
theorem r_5_tellSame_70 : RB M_X5_tellSame 70 (.ifCond .eq) 85 73 := ⟨15, by decide +kernel, rfl, rfl⟩
theorem r_5_tellSame_85 : RC M_X5_tellSame 85 1 86 := ⟨⟨by decide, by decide⟩, Or.inl ⟨by decide +kernel, rfl⟩⟩
theorem r_5_tellSame_86 : RW M_X5_tellSame 86 .ireturn 87 1 := ⟨by decide +kernel, rfl⟩
theorem r_5_tellSame_73 : RA M_X5_tellSame 73 0 74 := Or.inl ⟨0, by decide +kernel, rfl, rfl⟩
theorem r_5_tellSame_74 : RL M_X5_tellSame 74 2 75 := Or.inl ⟨2, by decide +kernel, rfl, rfl⟩
theorem r_5_tellSame_75 : RKv M_X5_tellSame M_X5_isWhole 75 1 5 78 := ⟨76, by decide +kernel, wd_m5_76, ok_M_X5_isWhole, wd_s5_isWhole, rfl⟩
theorem r_5_tellSame_78 : RB M_X5_tellSame 78 (.ifCond .eq) 85 81 := ⟨7, by decide +kernel, rfl, rfl⟩
theorem r_5_tellSame_81 : RC M_X5_tellSame 81 2 82 := ⟨⟨by decide, by decide⟩, Or.inl ⟨by decide +kernel, rfl⟩⟩
theorem r_5_tellSame_82 : RB M_X5_tellSame 82 .goto 86 85 := ⟨4, by decide +kernel, rfl, rfl⟩
theorem r_5_tellSame_63 : RC M_X5_tellSame 63 0 64 := ⟨⟨by decide, by decide⟩, Or.inl ⟨by decide +kernel, rfl⟩⟩
theorem r_5_tellSame_64 : RW M_X5_tellSame 64 .ireturn 65 1 := ⟨by decide +kernel, rfl⟩
theorem r_5_tellSame_55 : RL M_X5_tellSame 55 4 57 := Or.inr ⟨by decide +kernel, rfl⟩
theorem r_5_tellSame_57 : RW M_X5_tellSame 57 .ireturn 58 1 := ⟨by decide +kernel, rfl⟩
theorem r_5_isSure_0 : RA M_X5_isSure 0 0 1 := Or.inl ⟨0, by decide +kernel, rfl, rfl⟩
theorem r_5_isSure_1 : RG M_X5_isSure 1 5 1 4 := ⟨11, _, by decide +kernel, rfl, by decide, wd_f5_11, rfl, rfl⟩
theorem r_5_isSure_4 : RL M_X5_isSure 4 1 5 := Or.inl ⟨1, by decide +kernel, rfl, rfl⟩
theorem r_5_isSure_5 : RW M_X5_isSure 5 .iaload 6 1 := ⟨by decide +kernel, rfl⟩
theorem r_5_isSure_6 : RA M_X5_isSure 6 0 7 := Or.inl ⟨0, by decide +kernel, rfl, rfl⟩
theorem r_5_isSure_7 : RG M_X5_isSure 7 5 1 10 := ⟨11, _, by decide +kernel, rfl, by decide, wd_f5_11, rfl, rfl⟩
theorem r_5_isSure_10 : RL M_X5_isSure 10 2 11 := Or.inl ⟨2, by decide +kernel, rfl, rfl⟩
theorem r_5_isSure_11 : RW M_X5_isSure 11 .iaload 12 1 := ⟨by decide +kernel, rfl⟩
theorem r_5_isSure_12 : RB M_X5_isSure 12 (.if_icmp .eq) 44 15 := ⟨32, by decide +kernel, rfl, rfl⟩
theorem r_5_isSure_44 : RC M_X5_isSure 44 0 45 := ⟨⟨by decide, by decide⟩, Or.inl ⟨by decide +kernel, rfl⟩⟩
theorem r_5_isSure_45 : RW M_X5_isSure 45 .ireturn 46 1 := ⟨by decide +kernel, rfl⟩
theorem r_5_isSure_15 : RA M_X5_isSure 15 0 16 := Or.inl ⟨0, by decide +kernel, rfl, rfl⟩
theorem r_5_isSure_16 : RL M_X5_isSure 16 1 17 := Or.inl ⟨1, by decide +kernel, rfl, rfl⟩
theorem r_5_isSure_17 : RKv M_X5_isSure M_X5_isWhole 17 1 5 20 := ⟨76, by decide +kernel, wd_m5_76, ok_M_X5_isWhole, wd_s5_isWhole, rfl⟩
theorem r_5_isSure_20 : RB M_X5_isSure 20 (.ifCond .eq) 44 23 := ⟨24, by decide +kernel, rfl, rfl⟩
theorem r_5_isSure_23 : RA M_X5_isSure 23 0 24 := Or.inl ⟨0, by decide +kernel, rfl, rfl⟩
theorem r_5_isSure_24 : RL M_X5_isSure 24 2 25 := Or.inl ⟨2, by decide +kernel, rfl, rfl⟩
theorem r_5_isSure_25 : RKv M_X5_isSure M_X5_isWhole 25 1 5 28 := ⟨76, by decide +kernel, wd_m5_76, ok_M_X5_isWhole, wd_s5_isWhole, rfl⟩
theorem r_5_isSure_28 : RB M_X5_isSure 28 (.ifCond .eq) 44 31 := ⟨16, by decide +kernel, rfl, rfl⟩
theorem r_5_isSure_31 : RA M_X5_isSure 31 0 32 := Or.inl ⟨0, by decide +kernel, rfl, rfl⟩
theorem r_5_isSure_32 : RL M_X5_isSure 32 1 33 := Or.inl ⟨1, by decide +kernel, rfl, rfl⟩
theorem r_5_isSure_33 : RL M_X5_isSure 33 2 34 := Or.inl ⟨2, by decide +kernel, rfl, rfl⟩
theorem r_5_isSure_34 : RKv M_X5_isSure M_X5_whyApart 34 2 5 37 := ⟨72, by decide +kernel, wd_m5_72, ok_M_X5_whyApart, wd_s5_whyApart, rfl⟩
theorem r_5_isSure_37 : RB M_X5_isSure 37 (.ifCond .ne) 44 40 := ⟨7, by decide +kernel, rfl, rfl⟩
theorem r_5_isSure_40 : RC M_X5_isSure 40 1 41 := ⟨⟨by decide, by decide⟩, Or.inl ⟨by decide +kernel, rfl⟩⟩
theorem r_5_isSure_41 : RB M_X5_isSure 41 .goto 45 44 := ⟨4, by decide +kernel, rfl, rfl⟩
theorem r_5_mustBeApart_0 : RA M_X5_mustBeApart 0 0 1 := Or.inl ⟨0, by decide +kernel, rfl, rfl⟩
theorem r_5_mustBeApart_1 : RG M_X5_mustBeApart 1 5 1 4 := ⟨11, _, by decide +kernel, rfl, by decide, wd_f5_11, rfl, rfl⟩
theorem r_5_mustBeApart_4 : RL M_X5_mustBeApart 4 1 5 := Or.inl ⟨1, by decide +kernel, rfl, rfl⟩
theorem r_5_mustBeApart_5 : RW M_X5_mustBeApart 5 .iaload 6 1 := ⟨by decide +kernel, rfl⟩
theorem r_5_mustBeApart_6 : RA M_X5_mustBeApart 6 0 7 := Or.inl ⟨0, by decide +kernel, rfl, rfl⟩
theorem r_5_mustBeApart_7 : RG M_X5_mustBeApart 7 5 1 10 := ⟨11, _, by decide +kernel, rfl, by decide, wd_f5_11, rfl, rfl⟩
theorem r_5_mustBeApart_10 : RL M_X5_mustBeApart 10 2 11 := Or.inl ⟨2, by decide +kernel, rfl, rfl⟩
theorem r_5_mustBeApart_11 : RW M_X5_mustBeApart 11 .iaload 12 1 := ⟨by decide +kernel, rfl⟩
theorem r_5_mustBeApart_12 : RB M_X5_mustBeApart 12 (.if_icmp .eq) 30 15 := ⟨18, by decide +kernel, rfl, rfl⟩
theorem r_5_mustBeApart_30 : RA M_X5_mustBeApart 30 0 31 := Or.inl ⟨0, by decide +kernel, rfl, rfl⟩
theorem r_5_mustBeApart_31 : RL M_X5_mustBeApart 31 1 32 := Or.inl ⟨1, by decide +kernel, rfl, rfl⟩
theorem r_5_mustBeApart_32 : RL M_X5_mustBeApart 32 2 33 := Or.inl ⟨2, by decide +kernel, rfl, rfl⟩
theorem r_5_mustBeApart_33 : RC M_X5_mustBeApart 33 2 34 := ⟨⟨by decide, by decide⟩, Or.inl ⟨by decide +kernel, rfl⟩⟩
theorem r_5_mustBeApart_34 : RKv M_X5_mustBeApart M_X5_agesDiffer 34 3 5 37 := ⟨79, by decide +kernel, wd_m5_79, ok_M_X5_agesDiffer, wd_s5_agesDiffer, rfl⟩
theorem r_5_mustBeApart_37 : RB M_X5_mustBeApart 37 (.ifCond .ne) 49 40 := ⟨12, by decide +kernel, rfl, rfl⟩
theorem r_5_mustBeApart_49 : RC M_X5_mustBeApart 49 1 50 := ⟨⟨by decide, by decide⟩, Or.inl ⟨by decide +kernel, rfl⟩⟩
theorem r_5_mustBeApart_50 : RB M_X5_mustBeApart 50 .goto 54 53 := ⟨4, by decide +kernel, rfl, rfl⟩
theorem r_5_mustBeApart_54 : RW M_X5_mustBeApart 54 .ireturn 55 1 := ⟨by decide +kernel, rfl⟩
theorem r_5_mustBeApart_40 : RA M_X5_mustBeApart 40 0 41 := Or.inl ⟨0, by decide +kernel, rfl, rfl⟩
theorem r_5_mustBeApart_41 : RL M_X5_mustBeApart 41 1 42 := Or.inl ⟨1, by decide +kernel, rfl, rfl⟩
theorem r_5_mustBeApart_42 : RL M_X5_mustBeApart 42 2 43 := Or.inl ⟨2, by decide +kernel, rfl, rfl⟩
theorem r_5_mustBeApart_43 : RKv M_X5_mustBeApart M_X5_unitsDiffer 43 2 5 46 := ⟨82, by decide +kernel, wd_m5_82, ok_M_X5_unitsDiffer, wd_s5_unitsDiffer, rfl⟩
theorem r_5_mustBeApart_46 : RB M_X5_mustBeApart 46 (.ifCond .eq) 53 49 := ⟨7, by decide +kernel, rfl, rfl⟩
theorem r_5_mustBeApart_53 : RC M_X5_mustBeApart 53 0 54 := ⟨⟨by decide, by decide⟩, Or.inl ⟨by decide +kernel, rfl⟩⟩
theorem r_5_mustBeApart_15 : RA M_X5_mustBeApart 15 0 16 := Or.inl ⟨0, by decide +kernel, rfl, rfl⟩
theorem r_5_mustBeApart_16 : RL M_X5_mustBeApart 16 1 17 := Or.inl ⟨1, by decide +kernel, rfl, rfl⟩
theorem r_5_mustBeApart_17 : RL M_X5_mustBeApart 17 2 18 := Or.inl ⟨2, by decide +kernel, rfl, rfl⟩
theorem r_5_mustBeApart_18 : RKv M_X5_mustBeApart M_X5_whyApart 18 2 5 21 := ⟨72, by decide +kernel, wd_m5_72, ok_M_X5_whyApart, wd_s5_whyApart, rfl⟩
theorem r_5_mustBeApart_21 : RB M_X5_mustBeApart 21 (.ifCond .eq) 28 24 := ⟨7, by decide +kernel, rfl, rfl⟩
theorem r_5_mustBeApart_28 : RC M_X5_mustBeApart 28 0 29 := ⟨⟨by decide, by decide⟩, Or.inl ⟨by decide +kernel, rfl⟩⟩
theorem r_5_mustBeApart_29 : RW M_X5_mustBeApart 29 .ireturn 30 1 := ⟨by decide +kernel, rfl⟩
theorem r_5_mustBeApart_24 : RC M_X5_mustBeApart 24 1 25 := ⟨⟨by decide, by decide⟩, Or.inl ⟨by decide +kernel, rfl⟩⟩
theorem r_5_mustBeApart_25 : RB M_X5_mustBeApart 25 .goto 29 28 := ⟨4, by decide +kernel, rfl, rfl⟩
theorem r_12_why_29 : RS M_X12_why 29 4 31 := ⟨by decide, Or.inr ⟨by decide +kernel, rfl⟩⟩
theorem r_12_why_31 : RA M_X12_why 31 0 32 := Or.inl ⟨0, by decide +kernel, rfl, rfl⟩
theorem r_12_why_32 : RG M_X12_why 32 12 52 35 := ⟨121, _, by decide +kernel, rfl, by decide, wd_f12_121, rfl, rfl⟩
theorem r_12_why_35 : RL M_X12_why 35 3 36 := Or.inl ⟨3, by decide +kernel, rfl, rfl⟩
theorem r_12_why_36 : RW M_X12_why 36 .iaload 37 1 := ⟨by decide +kernel, rfl⟩
theorem r_12_why_37 : RKs M_X12_why M_X12_lengthOf 37 1 40 := ⟨405, by decide +kernel, Or.inl wd_m12_405, ok_M_X12_lengthOf, rfl⟩
theorem r_12_why_40 : RA M_X12_why 40 0 41 := Or.inl ⟨0, by decide +kernel, rfl, rfl⟩
theorem r_12_why_41 : RG M_X12_why 41 12 52 44 := ⟨121, _, by decide +kernel, rfl, by decide, wd_f12_121, rfl, rfl⟩
theorem r_12_why_44 : RL M_X12_why 44 4 46 := Or.inr ⟨by decide +kernel, rfl⟩
theorem r_12_why_46 : RW M_X12_why 46 .iaload 47 1 := ⟨by decide +kernel, rfl⟩
theorem r_12_why_47 : RKs M_X12_why M_X12_lengthOf 47 1 50 := ⟨405, by decide +kernel, Or.inl wd_m12_405, ok_M_X12_lengthOf, rfl⟩
theorem r_12_why_50 : RB M_X12_why 50 (.if_icmp .eq) 55 53 := ⟨5, by decide +kernel, rfl, rfl⟩
theorem r_12_why_55 : RA M_X12_why 55 0 56 := Or.inl ⟨0, by decide +kernel, rfl, rfl⟩
theorem r_12_why_56 : RC M_X12_why 56 1 57 := ⟨⟨by decide, by decide⟩, Or.inl ⟨by decide +kernel, rfl⟩⟩
theorem r_12_why_57 : RP M_X12_why 57 12 58 60 := ⟨408, _, by decide +kernel, rfl, by decide, wd_f12_408, rfl, Or.inl rfl, rfl⟩
theorem r_12_why_60 : RA M_X12_why 60 0 61 := Or.inl ⟨0, by decide +kernel, rfl, rfl⟩
theorem r_12_why_61 : RG M_X12_why 61 12 52 64 := ⟨121, _, by decide +kernel, rfl, by decide, wd_f12_121, rfl, rfl⟩
theorem r_12_why_64 : RL M_X12_why 64 3 65 := Or.inl ⟨3, by decide +kernel, rfl, rfl⟩
theorem r_12_why_65 : RW M_X12_why 65 .iaload 66 1 := ⟨by decide +kernel, rfl⟩
theorem r_12_why_66 : RS M_X12_why 66 5 68 := ⟨by decide, Or.inr ⟨by decide +kernel, rfl⟩⟩
theorem r_12_why_68 : RA M_X12_why 68 0 69 := Or.inl ⟨0, by decide +kernel, rfl, rfl⟩
theorem r_12_why_69 : RG M_X12_why 69 12 52 72 := ⟨121, _, by decide +kernel, rfl, by decide, wd_f12_121, rfl, rfl⟩
theorem r_12_why_72 : RL M_X12_why 72 4 74 := Or.inr ⟨by decide +kernel, rfl⟩
theorem r_12_why_74 : RW M_X12_why 74 .iaload 75 1 := ⟨by decide +kernel, rfl⟩
theorem r_12_why_75 : RS M_X12_why 75 6 77 := ⟨by decide, Or.inr ⟨by decide +kernel, rfl⟩⟩
theorem r_12_why_77 : RC M_X12_why 77 1 78 := ⟨⟨by decide, by decide⟩, Or.inl ⟨by decide +kernel, rfl⟩⟩
theorem r_12_why_78 : RS M_X12_why 78 7 80 := ⟨by decide, Or.inr ⟨by decide +kernel, rfl⟩⟩
theorem r_12_why_80 : RL M_X12_why 80 5 82 := Or.inr ⟨by decide +kernel, rfl⟩
theorem r_12_why_82 : RB M_X12_why 82 (.ifCond .le) 164 85 := ⟨82, by decide +kernel, rfl, rfl⟩
theorem r_12_why_164 : RL M_X12_why 164 7 166 := Or.inr ⟨by decide +kernel, rfl⟩
theorem r_12_why_166 : RB M_X12_why 166 (.ifCond .ne) 171 169 := ⟨5, by decide +kernel, rfl, rfl⟩
theorem r_12_why_171 : RA M_X12_why 171 0 172 := Or.inl ⟨0, by decide +kernel, rfl, rfl⟩
theorem r_12_why_172 : RG M_X12_why 172 12 53 175 := ⟨124, _, by decide +kernel, rfl, by decide, wd_f12_124, rfl, rfl⟩
theorem r_12_why_175 : RL M_X12_why 175 3 176 := Or.inl ⟨3, by decide +kernel, rfl, rfl⟩
theorem r_12_why_176 : RW M_X12_why 176 .iaload 177 1 := ⟨by decide +kernel, rfl⟩
theorem r_12_why_177 : RB M_X12_why 177 (.ifCond .lt) 214 180 := ⟨37, by decide +kernel, rfl, rfl⟩
theorem r_12_why_214 : RA M_X12_why 214 0 215 := Or.inl ⟨0, by decide +kernel, rfl, rfl⟩
theorem r_12_why_215 : RG M_X12_why 215 12 54 218 := ⟨127, _, by decide +kernel, rfl, by decide, wd_f12_127, rfl, rfl⟩
theorem r_12_why_218 : RL M_X12_why 218 3 219 := Or.inl ⟨3, by decide +kernel, rfl, rfl⟩
theorem r_12_why_219 : RW M_X12_why 219 .iaload 220 1 := ⟨by decide +kernel, rfl⟩
theorem r_12_why_220 : RB M_X12_why 220 (.ifCond .lt) 253 223 := ⟨33, by decide +kernel, rfl, rfl⟩
theorem r_12_why_253 : RC M_X12_why 253 0 254 := ⟨⟨by decide, by decide⟩, Or.inl ⟨by decide +kernel, rfl⟩⟩
theorem r_12_why_254 : RW M_X12_why 254 .ireturn 255 1 := ⟨by decide +kernel, rfl⟩
theorem r_12_why_223 : RA M_X12_why 223 0 224 := Or.inl ⟨0, by decide +kernel, rfl, rfl⟩
theorem r_12_why_224 : RG M_X12_why 224 12 54 227 := ⟨127, _, by decide +kernel, rfl, by decide, wd_f12_127, rfl, rfl⟩
theorem r_12_why_227 : RL M_X12_why 227 4 229 := Or.inr ⟨by decide +kernel, rfl⟩
theorem r_12_why_229 : RW M_X12_why 229 .iaload 230 1 := ⟨by decide +kernel, rfl⟩
theorem r_12_why_230 : RB M_X12_why 230 (.ifCond .lt) 253 233 := ⟨23, by decide +kernel, rfl, rfl⟩
theorem r_12_why_233 : RA M_X12_why 233 0 234 := Or.inl ⟨0, by decide +kernel, rfl, rfl⟩
theorem r_12_why_234 : RG M_X12_why 234 12 54 237 := ⟨127, _, by decide +kernel, rfl, by decide, wd_f12_127, rfl, rfl⟩
theorem r_12_why_237 : RL M_X12_why 237 3 238 := Or.inl ⟨3, by decide +kernel, rfl, rfl⟩
theorem r_12_why_238 : RW M_X12_why 238 .iaload 239 1 := ⟨by decide +kernel, rfl⟩
theorem r_12_why_239 : RA M_X12_why 239 0 240 := Or.inl ⟨0, by decide +kernel, rfl, rfl⟩
theorem r_12_why_240 : RG M_X12_why 240 12 54 243 := ⟨127, _, by decide +kernel, rfl, by decide, wd_f12_127, rfl, rfl⟩
theorem r_12_why_243 : RL M_X12_why 243 4 245 := Or.inr ⟨by decide +kernel, rfl⟩
theorem r_12_why_245 : RW M_X12_why 245 .iaload 246 1 := ⟨by decide +kernel, rfl⟩
theorem r_12_why_246 : RB M_X12_why 246 (.if_icmp .eq) 253 249 := ⟨7, by decide +kernel, rfl, rfl⟩
theorem r_12_why_249 : RC M_X12_why 249 4 250 := ⟨⟨by decide, by decide⟩, Or.inl ⟨by decide +kernel, rfl⟩⟩
theorem r_12_why_250 : RB M_X12_why 250 .goto 254 253 := ⟨4, by decide +kernel, rfl, rfl⟩
theorem r_12_why_180 : RA M_X12_why 180 0 181 := Or.inl ⟨0, by decide +kernel, rfl, rfl⟩
theorem r_12_why_181 : RG M_X12_why 181 12 53 184 := ⟨124, _, by decide +kernel, rfl, by decide, wd_f12_124, rfl, rfl⟩
theorem r_12_why_184 : RL M_X12_why 184 4 186 := Or.inr ⟨by decide +kernel, rfl⟩
theorem r_12_why_186 : RW M_X12_why 186 .iaload 187 1 := ⟨by decide +kernel, rfl⟩
theorem r_12_why_187 : RB M_X12_why 187 (.ifCond .lt) 214 190 := ⟨27, by decide +kernel, rfl, rfl⟩
theorem r_12_why_190 : RA M_X12_why 190 0 191 := Or.inl ⟨0, by decide +kernel, rfl, rfl⟩
theorem r_12_why_191 : RG M_X12_why 191 12 53 194 := ⟨124, _, by decide +kernel, rfl, by decide, wd_f12_124, rfl, rfl⟩
theorem r_12_why_194 : RL M_X12_why 194 3 195 := Or.inl ⟨3, by decide +kernel, rfl, rfl⟩
theorem r_12_why_195 : RW M_X12_why 195 .iaload 196 1 := ⟨by decide +kernel, rfl⟩
theorem r_12_why_196 : RA M_X12_why 196 0 197 := Or.inl ⟨0, by decide +kernel, rfl, rfl⟩
theorem r_12_why_197 : RG M_X12_why 197 12 53 200 := ⟨124, _, by decide +kernel, rfl, by decide, wd_f12_124, rfl, rfl⟩
theorem r_12_why_200 : RL M_X12_why 200 4 202 := Or.inr ⟨by decide +kernel, rfl⟩
theorem r_12_why_202 : RW M_X12_why 202 .iaload 203 1 := ⟨by decide +kernel, rfl⟩
theorem r_12_why_203 : RW M_X12_why 203 .isub 204 1 := ⟨by decide +kernel, rfl⟩
theorem r_12_why_204 : RC M_X12_why 204 (-1) 205 := ⟨⟨by decide, by decide⟩, Or.inl ⟨by decide +kernel, rfl⟩⟩
theorem r_12_why_205 : RC M_X12_why 205 1 206 := ⟨⟨by decide, by decide⟩, Or.inl ⟨by decide +kernel, rfl⟩⟩
theorem r_12_why_206 : RKs M_X12_why M_X12_within 206 3 209 := ⟨240, by decide +kernel, Or.inl wd_m12_240, ok_M_X12_within, rfl⟩
theorem r_12_why_209 : RB M_X12_why 209 (.ifCond .ne) 214 212 := ⟨5, by decide +kernel, rfl, rfl⟩
theorem r_12_why_212 : RC M_X12_why 212 3 213 := ⟨⟨by decide, by decide⟩, Or.inl ⟨by decide +kernel, rfl⟩⟩
theorem r_12_why_213 : RW M_X12_why 213 .ireturn 214 1 := ⟨by decide +kernel, rfl⟩
theorem r_12_why_169 : RC M_X12_why 169 2 170 := ⟨⟨by decide, by decide⟩, Or.inl ⟨by decide +kernel, rfl⟩⟩
theorem r_12_why_170 : RW M_X12_why 170 .ireturn 171 1 := ⟨by decide +kernel, rfl⟩
theorem r_12_why_85 : RL M_X12_why 85 5 87 := Or.inr ⟨by decide +kernel, rfl⟩
theorem r_12_why_87 : RC M_X12_why 87 28 89 := ⟨⟨by decide, by decide⟩, Or.inr (Or.inl ⟨by decide +kernel, by decide, rfl⟩)⟩
theorem r_12_why_89 : RW M_X12_why 89 .irem 90 1 := ⟨by decide +kernel, rfl⟩
theorem r_12_why_90 : RC M_X12_why 90 27 92 := ⟨⟨by decide, by decide⟩, Or.inr (Or.inl ⟨by decide +kernel, by decide, rfl⟩)⟩
theorem r_12_why_92 : RB M_X12_why 92 (.if_icmp .eq) 105 95 := ⟨13, by decide +kernel, rfl, rfl⟩
theorem r_12_why_105 : RA M_X12_why 105 0 106 := Or.inl ⟨0, by decide +kernel, rfl, rfl⟩
theorem r_12_why_106 : RC M_X12_why 106 0 107 := ⟨⟨by decide, by decide⟩, Or.inl ⟨by decide +kernel, rfl⟩⟩
theorem r_12_why_107 : RP M_X12_why 107 12 58 110 := ⟨408, _, by decide +kernel, rfl, by decide, wd_f12_408, rfl, Or.inl rfl, rfl⟩
theorem r_12_why_110 : RB M_X12_why 110 .goto 147 113 := ⟨37, by decide +kernel, rfl, rfl⟩
theorem r_12_why_147 : RL M_X12_why 147 5 149 := Or.inr ⟨by decide +kernel, rfl⟩
theorem r_12_why_149 : RC M_X12_why 149 28 151 := ⟨⟨by decide, by decide⟩, Or.inr (Or.inl ⟨by decide +kernel, by decide, rfl⟩)⟩
theorem r_12_why_151 : RW M_X12_why 151 .idiv 152 1 := ⟨by decide +kernel, rfl⟩
theorem r_12_why_152 : RS M_X12_why 152 5 154 := ⟨by decide, Or.inr ⟨by decide +kernel, rfl⟩⟩
theorem r_12_why_154 : RL M_X12_why 154 6 156 := Or.inr ⟨by decide +kernel, rfl⟩
theorem r_12_why_156 : RC M_X12_why 156 28 158 := ⟨⟨by decide, by decide⟩, Or.inr (Or.inl ⟨by decide +kernel, by decide, rfl⟩)⟩
theorem r_12_why_158 : RW M_X12_why 158 .idiv 159 1 := ⟨by decide +kernel, rfl⟩
theorem r_12_why_159 : RS M_X12_why 159 6 161 := ⟨by decide, Or.inr ⟨by decide +kernel, rfl⟩⟩
theorem r_12_why_161 : RB M_X12_why 161 .goto 80 164 := ⟨(-81), by decide +kernel, rfl, rfl⟩
theorem r_12_why_95 : RL M_X12_why 95 6 97 := Or.inr ⟨by decide +kernel, rfl⟩
theorem r_12_why_97 : RC M_X12_why 97 28 99 := ⟨⟨by decide, by decide⟩, Or.inr (Or.inl ⟨by decide +kernel, by decide, rfl⟩)⟩
theorem r_12_why_99 : RW M_X12_why 99 .irem 100 1 := ⟨by decide +kernel, rfl⟩
theorem r_12_why_100 : RC M_X12_why 100 27 102 := ⟨⟨by decide, by decide⟩, Or.inr (Or.inl ⟨by decide +kernel, by decide, rfl⟩)⟩
theorem r_12_why_102 : RB M_X12_why 102 (.if_icmp .ne) 113 105 := ⟨11, by decide +kernel, rfl, rfl⟩
theorem r_12_why_113 : RL M_X12_why 113 7 115 := Or.inr ⟨by decide +kernel, rfl⟩
theorem r_12_why_115 : RB M_X12_why 115 (.ifCond .eq) 144 118 := ⟨29, by decide +kernel, rfl, rfl⟩
theorem r_12_why_144 : RC M_X12_why 144 0 145 := ⟨⟨by decide, by decide⟩, Or.inl ⟨by decide +kernel, rfl⟩⟩
theorem r_12_why_145 : RS M_X12_why 145 7 147 := ⟨by decide, Or.inr ⟨by decide +kernel, rfl⟩⟩
theorem r_12_why_118 : RA M_X12_why 118 0 119 := Or.inl ⟨0, by decide +kernel, rfl, rfl⟩
theorem r_12_why_119 : RG M_X12_why 119 12 56 122 := ⟨130, _, by decide +kernel, rfl, by decide, wd_f12_130, rfl, rfl⟩
theorem r_12_why_122 : RC M_X12_why 122 27 124 := ⟨⟨by decide, by decide⟩, Or.inr (Or.inl ⟨by decide +kernel, by decide, rfl⟩)⟩
theorem r_12_why_124 : RL M_X12_why 124 5 126 := Or.inr ⟨by decide +kernel, rfl⟩
theorem r_12_why_126 : RC M_X12_why 126 28 128 := ⟨⟨by decide, by decide⟩, Or.inr (Or.inl ⟨by decide +kernel, by decide, rfl⟩)⟩
theorem r_12_why_128 : RW M_X12_why 128 .irem 129 1 := ⟨by decide +kernel, rfl⟩
theorem r_12_why_129 : RW M_X12_why 129 .imul 130 1 := ⟨by decide +kernel, rfl⟩
theorem r_12_why_130 : RL M_X12_why 130 6 132 := Or.inr ⟨by decide +kernel, rfl⟩
theorem r_12_why_132 : RC M_X12_why 132 28 134 := ⟨⟨by decide, by decide⟩, Or.inr (Or.inl ⟨by decide +kernel, by decide, rfl⟩)⟩
theorem r_12_why_134 : RW M_X12_why 134 .irem 135 1 := ⟨by decide +kernel, rfl⟩
theorem r_12_why_135 : RW M_X12_why 135 .iadd 136 1 := ⟨by decide +kernel, rfl⟩
theorem r_12_why_136 : RW M_X12_why 136 .baload 137 1 := ⟨by decide +kernel, rfl⟩
theorem r_12_why_137 : RB M_X12_why 137 (.ifCond .eq) 144 140 := ⟨7, by decide +kernel, rfl, rfl⟩
theorem r_12_why_140 : RC M_X12_why 140 1 141 := ⟨⟨by decide, by decide⟩, Or.inl ⟨by decide +kernel, rfl⟩⟩
theorem r_12_why_141 : RB M_X12_why 141 .goto 145 144 := ⟨4, by decide +kernel, rfl, rfl⟩
theorem r_12_why_53 : RC M_X12_why 53 1 54 := ⟨⟨by decide, by decide⟩, Or.inl ⟨by decide +kernel, rfl⟩⟩
theorem r_12_why_54 : RW M_X12_why 54 .ireturn 55 1 := ⟨by decide +kernel, rfl⟩
theorem r_12_why_14 : RS M_X12_why 14 3 15 := ⟨by decide, Or.inl ⟨3, by decide +kernel, rfl, rfl⟩⟩
theorem r_12_why_15 : RA M_X12_why 15 0 16 := Or.inl ⟨0, by decide +kernel, rfl, rfl⟩
theorem r_12_why_16 : RG M_X12_why 16 12 51 19 := ⟨118, _, by decide +kernel, rfl, by decide, wd_f12_118, rfl, rfl⟩
theorem r_12_why_19 : RL M_X12_why 19 1 20 := Or.inl ⟨1, by decide +kernel, rfl, rfl⟩
theorem r_12_why_20 : RW M_X12_why 20 .iaload 21 1 := ⟨by decide +kernel, rfl⟩
theorem r_12_why_21 : RB M_X12_why 21 (.ifCond .ne) 28 24 := ⟨7, by decide +kernel, rfl, rfl⟩
theorem r_12_why_28 : RL M_X12_why 28 1 29 := Or.inl ⟨1, by decide +kernel, rfl, rfl⟩
theorem r_12_why_24 : RL M_X12_why 24 2 25 := Or.inl ⟨2, by decide +kernel, rfl, rfl⟩
theorem r_12_why_25 : RB M_X12_why 25 .goto 29 28 := ⟨4, by decide +kernel, rfl, rfl⟩
theorem r_12_why_0 : RA M_X12_why 0 0 1 := Or.inl ⟨0, by decide +kernel, rfl, rfl⟩
theorem r_12_why_1 : RG M_X12_why 1 12 51 4 := ⟨118, _, by decide +kernel, rfl, by decide, wd_f12_118, rfl, rfl⟩
theorem r_12_why_4 : RL M_X12_why 4 1 5 := Or.inl ⟨1, by decide +kernel, rfl, rfl⟩
theorem r_12_why_5 : RW M_X12_why 5 .iaload 6 1 := ⟨by decide +kernel, rfl⟩
theorem r_12_why_6 : RB M_X12_why 6 (.ifCond .ne) 13 9 := ⟨7, by decide +kernel, rfl, rfl⟩
theorem r_12_why_13 : RL M_X12_why 13 2 14 := Or.inl ⟨2, by decide +kernel, rfl, rfl⟩
theorem r_12_why_9 : RL M_X12_why 9 1 10 := Or.inl ⟨1, by decide +kernel, rfl, rfl⟩
theorem r_12_why_10 : RB M_X12_why 10 .goto 14 13 := ⟨4, by decide +kernel, rfl, rfl⟩
theorem r_12_sameOf_0 : RA M_X12_sameOf 0 0 1 := Or.inl ⟨0, by decide +kernel, rfl, rfl⟩
theorem r_12_sameOf_1 : RL M_X12_sameOf 1 1 2 := Or.inl ⟨1, by decide +kernel, rfl, rfl⟩
theorem r_12_sameOf_2 : RL M_X12_sameOf 2 2 3 := Or.inl ⟨2, by decide +kernel, rfl, rfl⟩
theorem r_12_sameOf_3 : RKv M_X12_sameOf M_X12_why 3 2 12 6 := ⟨412, by decide +kernel, wd_m12_412, ok_M_X12_why, wd_s12_why, rfl⟩
theorem r_12_sameOf_6 : RB M_X12_sameOf 6 (.ifCond .eq) 11 9 := ⟨5, by decide +kernel, rfl, rfl⟩
theorem r_12_sameOf_9 : RC M_X12_sameOf 9 0 10 := ⟨⟨by decide, by decide⟩, Or.inl ⟨by decide +kernel, rfl⟩⟩
theorem r_12_sameOf_10 : RW M_X12_sameOf 10 .ireturn 11 1 := ⟨by decide +kernel, rfl⟩
theorem r_12_sameOf_11 : RA M_X12_sameOf 11 0 12 := Or.inl ⟨0, by decide +kernel, rfl, rfl⟩
theorem r_12_sameOf_12 : RG M_X12_sameOf 12 12 58 15 := ⟨408, _, by decide +kernel, rfl, by decide, wd_f12_408, rfl, rfl⟩
theorem r_12_sameOf_15 : RB M_X12_sameOf 15 (.ifCond .eq) 58 18 := ⟨43, by decide +kernel, rfl, rfl⟩
theorem r_12_sameOf_58 : RC M_X12_sameOf 58 1 59 := ⟨⟨by decide, by decide⟩, Or.inl ⟨by decide +kernel, rfl⟩⟩
theorem r_12_sameOf_59 : RW M_X12_sameOf 59 .ireturn 60 1 := ⟨by decide +kernel, rfl⟩
theorem r_12_sameOf_18 : RA M_X12_sameOf 18 0 19 := Or.inl ⟨0, by decide +kernel, rfl, rfl⟩
theorem r_12_sameOf_19 : RG M_X12_sameOf 19 12 53 22 := ⟨124, _, by decide +kernel, rfl, by decide, wd_f12_124, rfl, rfl⟩
theorem r_12_sameOf_22 : RL M_X12_sameOf 22 1 23 := Or.inl ⟨1, by decide +kernel, rfl, rfl⟩
theorem r_12_sameOf_23 : RW M_X12_sameOf 23 .iaload 24 1 := ⟨by decide +kernel, rfl⟩
theorem r_12_sameOf_24 : RB M_X12_sameOf 24 (.ifCond .lt) 58 27 := ⟨34, by decide +kernel, rfl, rfl⟩
theorem r_12_sameOf_27 : RA M_X12_sameOf 27 0 28 := Or.inl ⟨0, by decide +kernel, rfl, rfl⟩
theorem r_12_sameOf_28 : RG M_X12_sameOf 28 12 53 31 := ⟨124, _, by decide +kernel, rfl, by decide, wd_f12_124, rfl, rfl⟩
theorem r_12_sameOf_31 : RL M_X12_sameOf 31 2 32 := Or.inl ⟨2, by decide +kernel, rfl, rfl⟩
theorem r_12_sameOf_32 : RW M_X12_sameOf 32 .iaload 33 1 := ⟨by decide +kernel, rfl⟩
theorem r_12_sameOf_33 : RB M_X12_sameOf 33 (.ifCond .lt) 58 36 := ⟨25, by decide +kernel, rfl, rfl⟩
theorem r_12_sameOf_36 : RA M_X12_sameOf 36 0 37 := Or.inl ⟨0, by decide +kernel, rfl, rfl⟩
theorem r_12_sameOf_37 : RG M_X12_sameOf 37 12 54 40 := ⟨127, _, by decide +kernel, rfl, by decide, wd_f12_127, rfl, rfl⟩
theorem r_12_sameOf_40 : RL M_X12_sameOf 40 1 41 := Or.inl ⟨1, by decide +kernel, rfl, rfl⟩
theorem r_12_sameOf_41 : RW M_X12_sameOf 41 .iaload 42 1 := ⟨by decide +kernel, rfl⟩
theorem r_12_sameOf_42 : RB M_X12_sameOf 42 (.ifCond .lt) 58 45 := ⟨16, by decide +kernel, rfl, rfl⟩
theorem r_12_sameOf_45 : RA M_X12_sameOf 45 0 46 := Or.inl ⟨0, by decide +kernel, rfl, rfl⟩
theorem r_12_sameOf_46 : RG M_X12_sameOf 46 12 54 49 := ⟨127, _, by decide +kernel, rfl, by decide, wd_f12_127, rfl, rfl⟩
theorem r_12_sameOf_49 : RL M_X12_sameOf 49 2 50 := Or.inl ⟨2, by decide +kernel, rfl, rfl⟩
theorem r_12_sameOf_50 : RW M_X12_sameOf 50 .iaload 51 1 := ⟨by decide +kernel, rfl⟩
theorem r_12_sameOf_51 : RB M_X12_sameOf 51 (.ifCond .lt) 58 54 := ⟨7, by decide +kernel, rfl, rfl⟩
theorem r_12_sameOf_54 : RC M_X12_sameOf 54 2 55 := ⟨⟨by decide, by decide⟩, Or.inl ⟨by decide +kernel, rfl⟩⟩
theorem r_12_sameOf_55 : RB M_X12_sameOf 55 .goto 59 58 := ⟨4, by decide +kernel, rfl, rfl⟩
theorem r_12_same_0 : RA M_X12_same 0 0 1 := Or.inl ⟨0, by decide +kernel, rfl, rfl⟩
theorem r_12_same_1 : RL M_X12_same 1 1 2 := Or.inl ⟨1, by decide +kernel, rfl, rfl⟩
theorem r_12_same_2 : RKv M_X12_same M_X12_isRow 2 1 12 5 := ⟨415, by decide +kernel, wd_m12_415, ok_M_X12_isRow, wd_s12_isRow, rfl⟩
theorem r_12_same_5 : RB M_X12_same 5 (.ifCond .eq) 40 8 := ⟨35, by decide +kernel, rfl, rfl⟩
theorem r_12_same_40 : RC M_X12_same 40 (-1) 41 := ⟨⟨by decide, by decide⟩, Or.inl ⟨by decide +kernel, rfl⟩⟩
theorem r_12_same_41 : RW M_X12_same 41 .ireturn 42 1 := ⟨by decide +kernel, rfl⟩
theorem r_12_same_8 : RA M_X12_same 8 0 9 := Or.inl ⟨0, by decide +kernel, rfl, rfl⟩
theorem r_12_same_9 : RL M_X12_same 9 2 10 := Or.inl ⟨2, by decide +kernel, rfl, rfl⟩
theorem r_12_same_10 : RKv M_X12_same M_X12_isRow 10 1 12 13 := ⟨415, by decide +kernel, wd_m12_415, ok_M_X12_isRow, wd_s12_isRow, rfl⟩
theorem r_12_same_13 : RB M_X12_same 13 (.ifCond .eq) 40 16 := ⟨27, by decide +kernel, rfl, rfl⟩
theorem r_12_same_16 : RA M_X12_same 16 0 17 := Or.inl ⟨0, by decide +kernel, rfl, rfl⟩
theorem r_12_same_17 : RG M_X12_same 17 12 51 20 := ⟨118, _, by decide +kernel, rfl, by decide, wd_f12_118, rfl, rfl⟩
theorem r_12_same_20 : RL M_X12_same 20 1 21 := Or.inl ⟨1, by decide +kernel, rfl, rfl⟩
theorem r_12_same_21 : RW M_X12_same 21 .iaload 22 1 := ⟨by decide +kernel, rfl⟩
theorem r_12_same_22 : RA M_X12_same 22 0 23 := Or.inl ⟨0, by decide +kernel, rfl, rfl⟩
theorem r_12_same_23 : RG M_X12_same 23 12 51 26 := ⟨118, _, by decide +kernel, rfl, by decide, wd_f12_118, rfl, rfl⟩
theorem r_12_same_26 : RL M_X12_same 26 2 27 := Or.inl ⟨2, by decide +kernel, rfl, rfl⟩
theorem r_12_same_27 : RW M_X12_same 27 .iaload 28 1 := ⟨by decide +kernel, rfl⟩
theorem r_12_same_28 : RB M_X12_same 28 (.if_icmp .eq) 40 31 := ⟨12, by decide +kernel, rfl, rfl⟩
theorem r_12_same_31 : RL M_X12_same 31 3 32 := Or.inl ⟨3, by decide +kernel, rfl, rfl⟩
theorem r_12_same_32 : RC M_X12_same 32 0 33 := ⟨⟨by decide, by decide⟩, Or.inl ⟨by decide +kernel, rfl⟩⟩
theorem r_12_same_33 : RC M_X12_same 33 1 34 := ⟨⟨by decide, by decide⟩, Or.inl ⟨by decide +kernel, rfl⟩⟩
theorem r_12_same_34 : RKs M_X12_same M_X12_within 34 3 37 := ⟨240, by decide +kernel, Or.inl wd_m12_240, ok_M_X12_within, rfl⟩
theorem r_12_same_37 : RB M_X12_same 37 (.ifCond .ne) 42 40 := ⟨5, by decide +kernel, rfl, rfl⟩
theorem r_12_same_42 : RL M_X12_same 42 3 43 := Or.inl ⟨3, by decide +kernel, rfl, rfl⟩
theorem r_12_same_43 : RB M_X12_same 43 (.ifCond .ne) 55 46 := ⟨12, by decide +kernel, rfl, rfl⟩
theorem r_12_same_55 : RA M_X12_same 55 0 56 := Or.inl ⟨0, by decide +kernel, rfl, rfl⟩
theorem r_12_same_56 : RL M_X12_same 56 1 57 := Or.inl ⟨1, by decide +kernel, rfl, rfl⟩
theorem r_12_same_57 : RL M_X12_same 57 2 58 := Or.inl ⟨2, by decide +kernel, rfl, rfl⟩
theorem r_12_same_58 : RKv M_X12_same M_X12_why 58 2 12 61 := ⟨412, by decide +kernel, wd_m12_412, ok_M_X12_why, wd_s12_why, rfl⟩
theorem r_12_same_61 : RW M_X12_same 61 .ireturn 62 1 := ⟨by decide +kernel, rfl⟩
theorem r_12_same_46 : RA M_X12_same 46 0 47 := Or.inl ⟨0, by decide +kernel, rfl, rfl⟩
theorem r_12_same_47 : RL M_X12_same 47 1 48 := Or.inl ⟨1, by decide +kernel, rfl, rfl⟩
theorem r_12_same_48 : RL M_X12_same 48 2 49 := Or.inl ⟨2, by decide +kernel, rfl, rfl⟩
theorem r_12_same_49 : RKv M_X12_same M_X12_sameOf 49 2 12 52 := ⟨418, by decide +kernel, wd_m12_418, ok_M_X12_sameOf, wd_s12_sameOf, rfl⟩
theorem r_12_same_52 : RB M_X12_same 52 .goto 61 55 := ⟨9, by decide +kernel, rfl, rfl⟩
theorem r_12_mustBeApart_0 : RA M_X12_mustBeApart 0 0 1 := Or.inl ⟨0, by decide +kernel, rfl, rfl⟩
theorem r_12_mustBeApart_1 : RG M_X12_mustBeApart 1 12 51 4 := ⟨118, _, by decide +kernel, rfl, by decide, wd_f12_118, rfl, rfl⟩
theorem r_12_mustBeApart_4 : RL M_X12_mustBeApart 4 1 5 := Or.inl ⟨1, by decide +kernel, rfl, rfl⟩
theorem r_12_mustBeApart_5 : RW M_X12_mustBeApart 5 .iaload 6 1 := ⟨by decide +kernel, rfl⟩
theorem r_12_mustBeApart_6 : RA M_X12_mustBeApart 6 0 7 := Or.inl ⟨0, by decide +kernel, rfl, rfl⟩
theorem r_12_mustBeApart_7 : RG M_X12_mustBeApart 7 12 51 10 := ⟨118, _, by decide +kernel, rfl, by decide, wd_f12_118, rfl, rfl⟩
theorem r_12_mustBeApart_10 : RL M_X12_mustBeApart 10 2 11 := Or.inl ⟨2, by decide +kernel, rfl, rfl⟩
theorem r_12_mustBeApart_11 : RW M_X12_mustBeApart 11 .iaload 12 1 := ⟨by decide +kernel, rfl⟩
theorem r_12_mustBeApart_12 : RB M_X12_mustBeApart 12 (.if_icmp .eq) 30 15 := ⟨18, by decide +kernel, rfl, rfl⟩
theorem r_12_mustBeApart_30 : RA M_X12_mustBeApart 30 0 31 := Or.inl ⟨0, by decide +kernel, rfl, rfl⟩
theorem r_12_mustBeApart_31 : RG M_X12_mustBeApart 31 12 53 34 := ⟨124, _, by decide +kernel, rfl, by decide, wd_f12_124, rfl, rfl⟩
theorem r_12_mustBeApart_34 : RL M_X12_mustBeApart 34 1 35 := Or.inl ⟨1, by decide +kernel, rfl, rfl⟩
theorem r_12_mustBeApart_35 : RW M_X12_mustBeApart 35 .iaload 36 1 := ⟨by decide +kernel, rfl⟩
theorem r_12_mustBeApart_36 : RB M_X12_mustBeApart 36 (.ifCond .lt) 74 39 := ⟨38, by decide +kernel, rfl, rfl⟩
theorem r_12_mustBeApart_74 : RC M_X12_mustBeApart 74 0 75 := ⟨⟨by decide, by decide⟩, Or.inl ⟨by decide +kernel, rfl⟩⟩
theorem r_12_mustBeApart_75 : RS M_X12_mustBeApart 75 3 76 := ⟨by decide, Or.inl ⟨3, by decide +kernel, rfl, rfl⟩⟩
theorem r_12_mustBeApart_76 : RL M_X12_mustBeApart 76 3 77 := Or.inl ⟨3, by decide +kernel, rfl, rfl⟩
theorem r_12_mustBeApart_77 : RB M_X12_mustBeApart 77 (.ifCond .ne) 113 80 := ⟨36, by decide +kernel, rfl, rfl⟩
theorem r_12_mustBeApart_80 : RA M_X12_mustBeApart 80 0 81 := Or.inl ⟨0, by decide +kernel, rfl, rfl⟩
theorem r_12_mustBeApart_81 : RG M_X12_mustBeApart 81 12 54 84 := ⟨127, _, by decide +kernel, rfl, by decide, wd_f12_127, rfl, rfl⟩
theorem r_12_mustBeApart_84 : RL M_X12_mustBeApart 84 1 85 := Or.inl ⟨1, by decide +kernel, rfl, rfl⟩
theorem r_12_mustBeApart_85 : RW M_X12_mustBeApart 85 .iaload 86 1 := ⟨by decide +kernel, rfl⟩
theorem r_12_mustBeApart_86 : RB M_X12_mustBeApart 86 (.ifCond .lt) 117 89 := ⟨31, by decide +kernel, rfl, rfl⟩
theorem r_12_mustBeApart_117 : RC M_X12_mustBeApart 117 0 118 := ⟨⟨by decide, by decide⟩, Or.inl ⟨by decide +kernel, rfl⟩⟩
theorem r_12_mustBeApart_118 : RW M_X12_mustBeApart 118 .ireturn 119 1 := ⟨by decide +kernel, rfl⟩
theorem r_12_mustBeApart_89 : RA M_X12_mustBeApart 89 0 90 := Or.inl ⟨0, by decide +kernel, rfl, rfl⟩
theorem r_12_mustBeApart_90 : RG M_X12_mustBeApart 90 12 54 93 := ⟨127, _, by decide +kernel, rfl, by decide, wd_f12_127, rfl, rfl⟩
theorem r_12_mustBeApart_93 : RL M_X12_mustBeApart 93 2 94 := Or.inl ⟨2, by decide +kernel, rfl, rfl⟩
theorem r_12_mustBeApart_94 : RW M_X12_mustBeApart 94 .iaload 95 1 := ⟨by decide +kernel, rfl⟩
theorem r_12_mustBeApart_95 : RB M_X12_mustBeApart 95 (.ifCond .lt) 117 98 := ⟨22, by decide +kernel, rfl, rfl⟩
theorem r_12_mustBeApart_98 : RA M_X12_mustBeApart 98 0 99 := Or.inl ⟨0, by decide +kernel, rfl, rfl⟩
theorem r_12_mustBeApart_99 : RG M_X12_mustBeApart 99 12 54 102 := ⟨127, _, by decide +kernel, rfl, by decide, wd_f12_127, rfl, rfl⟩
theorem r_12_mustBeApart_102 : RL M_X12_mustBeApart 102 1 103 := Or.inl ⟨1, by decide +kernel, rfl, rfl⟩
theorem r_12_mustBeApart_103 : RW M_X12_mustBeApart 103 .iaload 104 1 := ⟨by decide +kernel, rfl⟩
theorem r_12_mustBeApart_104 : RA M_X12_mustBeApart 104 0 105 := Or.inl ⟨0, by decide +kernel, rfl, rfl⟩
theorem r_12_mustBeApart_105 : RG M_X12_mustBeApart 105 12 54 108 := ⟨127, _, by decide +kernel, rfl, by decide, wd_f12_127, rfl, rfl⟩
theorem r_12_mustBeApart_108 : RL M_X12_mustBeApart 108 2 109 := Or.inl ⟨2, by decide +kernel, rfl, rfl⟩
theorem r_12_mustBeApart_109 : RW M_X12_mustBeApart 109 .iaload 110 1 := ⟨by decide +kernel, rfl⟩
theorem r_12_mustBeApart_110 : RB M_X12_mustBeApart 110 (.if_icmp .eq) 117 113 := ⟨7, by decide +kernel, rfl, rfl⟩
theorem r_12_mustBeApart_113 : RC M_X12_mustBeApart 113 1 114 := ⟨⟨by decide, by decide⟩, Or.inl ⟨by decide +kernel, rfl⟩⟩
theorem r_12_mustBeApart_114 : RB M_X12_mustBeApart 114 .goto 118 117 := ⟨4, by decide +kernel, rfl, rfl⟩
theorem r_12_mustBeApart_39 : RA M_X12_mustBeApart 39 0 40 := Or.inl ⟨0, by decide +kernel, rfl, rfl⟩
theorem r_12_mustBeApart_40 : RG M_X12_mustBeApart 40 12 53 43 := ⟨124, _, by decide +kernel, rfl, by decide, wd_f12_124, rfl, rfl⟩
theorem r_12_mustBeApart_43 : RL M_X12_mustBeApart 43 2 44 := Or.inl ⟨2, by decide +kernel, rfl, rfl⟩
theorem r_12_mustBeApart_44 : RW M_X12_mustBeApart 44 .iaload 45 1 := ⟨by decide +kernel, rfl⟩
theorem r_12_mustBeApart_45 : RB M_X12_mustBeApart 45 (.ifCond .lt) 74 48 := ⟨29, by decide +kernel, rfl, rfl⟩
theorem r_12_mustBeApart_48 : RA M_X12_mustBeApart 48 0 49 := Or.inl ⟨0, by decide +kernel, rfl, rfl⟩
theorem r_12_mustBeApart_49 : RG M_X12_mustBeApart 49 12 53 52 := ⟨124, _, by decide +kernel, rfl, by decide, wd_f12_124, rfl, rfl⟩
theorem r_12_mustBeApart_52 : RL M_X12_mustBeApart 52 1 53 := Or.inl ⟨1, by decide +kernel, rfl, rfl⟩
theorem r_12_mustBeApart_53 : RW M_X12_mustBeApart 53 .iaload 54 1 := ⟨by decide +kernel, rfl⟩
theorem r_12_mustBeApart_54 : RA M_X12_mustBeApart 54 0 55 := Or.inl ⟨0, by decide +kernel, rfl, rfl⟩
theorem r_12_mustBeApart_55 : RG M_X12_mustBeApart 55 12 53 58 := ⟨124, _, by decide +kernel, rfl, by decide, wd_f12_124, rfl, rfl⟩
theorem r_12_mustBeApart_58 : RL M_X12_mustBeApart 58 2 59 := Or.inl ⟨2, by decide +kernel, rfl, rfl⟩
theorem r_12_mustBeApart_59 : RW M_X12_mustBeApart 59 .iaload 60 1 := ⟨by decide +kernel, rfl⟩
theorem r_12_mustBeApart_60 : RW M_X12_mustBeApart 60 .isub 61 1 := ⟨by decide +kernel, rfl⟩
theorem r_12_mustBeApart_61 : RC M_X12_mustBeApart 61 (-2) 63 := ⟨⟨by decide, by decide⟩, Or.inr (Or.inl ⟨by decide +kernel, by decide, rfl⟩)⟩
theorem r_12_mustBeApart_63 : RC M_X12_mustBeApart 63 2 64 := ⟨⟨by decide, by decide⟩, Or.inl ⟨by decide +kernel, rfl⟩⟩
theorem r_12_mustBeApart_64 : RKs M_X12_mustBeApart M_X12_within 64 3 67 := ⟨240, by decide +kernel, Or.inl wd_m12_240, ok_M_X12_within, rfl⟩
theorem r_12_mustBeApart_67 : RB M_X12_mustBeApart 67 (.ifCond .ne) 74 70 := ⟨7, by decide +kernel, rfl, rfl⟩
theorem r_12_mustBeApart_70 : RC M_X12_mustBeApart 70 1 71 := ⟨⟨by decide, by decide⟩, Or.inl ⟨by decide +kernel, rfl⟩⟩
theorem r_12_mustBeApart_71 : RB M_X12_mustBeApart 71 .goto 75 74 := ⟨4, by decide +kernel, rfl, rfl⟩
theorem r_12_mustBeApart_15 : RA M_X12_mustBeApart 15 0 16 := Or.inl ⟨0, by decide +kernel, rfl, rfl⟩
theorem r_12_mustBeApart_16 : RL M_X12_mustBeApart 16 1 17 := Or.inl ⟨1, by decide +kernel, rfl, rfl⟩
theorem r_12_mustBeApart_17 : RL M_X12_mustBeApart 17 2 18 := Or.inl ⟨2, by decide +kernel, rfl, rfl⟩
theorem r_12_mustBeApart_18 : RKv M_X12_mustBeApart M_X12_why 18 2 12 21 := ⟨412, by decide +kernel, wd_m12_412, ok_M_X12_why, wd_s12_why, rfl⟩
theorem r_12_mustBeApart_21 : RB M_X12_mustBeApart 21 (.ifCond .eq) 28 24 := ⟨7, by decide +kernel, rfl, rfl⟩
theorem r_12_mustBeApart_24 : RC M_X12_mustBeApart 24 1 25 := ⟨⟨by decide, by decide⟩, Or.inl ⟨by decide +kernel, rfl⟩⟩
theorem r_12_mustBeApart_25 : RB M_X12_mustBeApart 25 .goto 29 28 := ⟨4, by decide +kernel, rfl, rfl⟩
theorem r_12_mustBeApart_29 : RW M_X12_mustBeApart 29 .ireturn 30 1 := ⟨by decide +kernel, rfl⟩
theorem r_12_mustBeApart_28 : RC M_X12_mustBeApart 28 0 29 := ⟨⟨by decide, by decide⟩, Or.inl ⟨by decide +kernel, rfl⟩⟩
theorem r_11_same_0 : RA M_X11_same 0 0 1 := Or.inl ⟨0, by decide +kernel, rfl, rfl⟩
theorem r_11_same_1 : RG M_X11_same 1 11 4 4 := ⟨46, _, by decide +kernel, rfl, by decide, wd_f11_46, rfl, rfl⟩
theorem r_11_same_4 : RL M_X11_same 4 1 5 := Or.inl ⟨1, by decide +kernel, rfl, rfl⟩
theorem r_11_same_5 : RL M_X11_same 5 2 6 := Or.inl ⟨2, by decide +kernel, rfl, rfl⟩
theorem r_11_same_6 : RL M_X11_same 6 3 7 := Or.inl ⟨3, by decide +kernel, rfl, rfl⟩
theorem r_11_same_7 : RKv M_X11_same M_X5_tellSame 7 3 5 10 := ⟨166, by decide +kernel, wd_m11_166, ok_M_X5_tellSame, wd_s5_tellSame, rfl⟩
theorem r_11_same_10 : RW M_X11_same 10 .ireturn 11 1 := ⟨by decide +kernel, rfl⟩
set_option maxRecDepth 10000 in
theorem sp_X5_isRow {l : Launch} {w : Wo} {d : Nat} {G : PH} {P : Option PV → PH → Prop} {a : Int} (hrw : 0 ≤ (gF G 5 0 0) ∧ (gF G 5 0 0) ≤ 100) (hP : P (some (vI (b2i (0 ≤ a ∧ a < (gF G 5 0 0))))) G) : PW l w M_X5_isRow (d + 0) 0 [some (vR 5 (0)), some (vI (a))] [] G P := by
  refine pw_iload r_5_isRow_0 rfl ?_
  refine pw_if_lt r_5_isRow_1 (fun h01 => ?_) (fun h01 => ?_)
  · skip
    refine pw_const r_5_isRow_22 ?_
    refine pw_zret r_5_isRow_23 rfl (Or.inl rfl) (Nat.le_refl _) ⟨rfl, ?_⟩
    exact pe hP (by first | rfl | omega | exact (b2i_t (by omega)).symm | exact (b2i_f (by omega)).symm)
  · skip
    refine pw_iload r_5_isRow_4 rfl ?_
    refine pw_aload r_5_isRow_5 rfl ?_
    refine pw_getI r_5_isRow_6 fs_5_0 (by decide) ?_
    refine pw_icmp_ge r_5_isRow_9 (fun h09 => ?_) (fun h09 => ?_)
    · skip
      refine pw_const r_5_isRow_22 ?_
      refine pw_zret r_5_isRow_23 rfl (Or.inl rfl) (Nat.le_refl _) ⟨rfl, ?_⟩
      exact pe hP (by first | rfl | omega | exact (b2i_t (by omega)).symm | exact (b2i_f (by omega)).symm)
    · skip
      refine pw_iload r_5_isRow_12 rfl ?_
      refine pw_const r_5_isRow_13 ?_
      refine pw_icmp_ge r_5_isRow_15 (fun h15 => ?_) (fun h15 => ?_)
      · skip
        refine pw_const r_5_isRow_22 ?_
        refine pw_zret r_5_isRow_23 rfl (Or.inl rfl) (Nat.le_refl _) ⟨rfl, ?_⟩
        exact pe hP (by first | rfl | omega | exact (b2i_t (by omega)).symm | exact (b2i_f (by omega)).symm)
      · skip
        refine pw_const r_5_isRow_18 ?_
        refine pw_goto r_5_isRow_19 ?_
        refine pw_zret r_5_isRow_23 rfl (Or.inr rfl) (Nat.le_refl _) ⟨rfl, ?_⟩
        exact pe hP (by first | rfl | omega | exact (b2i_t (by omega)).symm | exact (b2i_f (by omega)).symm)
set_option maxRecDepth 10000 in
theorem sp_X12_isRow {l : Launch} {w : Wo} {d : Nat} {G : PH} {P : Option PV → PH → Prop} {a : Int} (hP : P (some (vI (b2i (0 ≤ a ∧ a < (gF G 12 0 55))))) G) : PW l w M_X12_isRow (d + 0) 0 [some (vR 12 (0)), some (vI (a))] [] G P := by
  refine pw_iload r_12_isRow_0 rfl ?_
  refine pw_if_lt r_12_isRow_1 (fun h01 => ?_) (fun h01 => ?_)
  · skip
    refine pw_const r_12_isRow_16 ?_
    refine pw_zret r_12_isRow_17 rfl (Or.inl rfl) (Nat.le_refl _) ⟨rfl, ?_⟩
    exact pe hP (by first | rfl | omega | exact (b2i_t (by omega)).symm | exact (b2i_f (by omega)).symm)
  · skip
    refine pw_iload r_12_isRow_4 rfl ?_
    refine pw_aload r_12_isRow_5 rfl ?_
    refine pw_getI r_12_isRow_6 fs_12_55 (by decide) ?_
    refine pw_icmp_ge r_12_isRow_9 (fun h09 => ?_) (fun h09 => ?_)
    · skip
      refine pw_const r_12_isRow_16 ?_
      refine pw_zret r_12_isRow_17 rfl (Or.inl rfl) (Nat.le_refl _) ⟨rfl, ?_⟩
      exact pe hP (by first | rfl | omega | exact (b2i_t (by omega)).symm | exact (b2i_f (by omega)).symm)
    · skip
      refine pw_const r_12_isRow_12 ?_
      refine pw_goto r_12_isRow_13 ?_
      refine pw_zret r_12_isRow_17 rfl (Or.inr rfl) (Nat.le_refl _) ⟨rfl, ?_⟩
      exact pe hP (by first | rfl | omega | exact (b2i_t (by omega)).symm | exact (b2i_f (by omega)).symm)
set_option maxRecDepth 10000 in
theorem sp_X5_agesDiffer {l : Launch} {w : Wo} {d : Nat} {G : PH} {P : Option PV → PH → Prop} {a b k : Int} (hrw : 0 ≤ (gF G 5 0 0) ∧ (gF G 5 0 0) ≤ 100) (hrc : rowsC G) (ha : 0 ≤ a ∧ a < (gF G 5 0 0)) (hb : 0 ≤ b ∧ b < (gF G 5 0 0)) (hP : P (some (vI (b2i (ageC G a b k)))) G) : PW l w M_X5_agesDiffer (d + 1) 0 [some (vR 5 (0)), some (vI (a)), some (vI (b)), some (vI (k))] [] G P := by
  have hca := hrc a ha.1 ha.2
  have hcb := hrc b hb.1 hb.2
  refine pw_aload r_5_agesDiffer_0 rfl ?_
  refine pw_getR r_5_agesDiffer_1 fs_5_4 (by decide) ?_
  refine pw_iload r_5_agesDiffer_4 rfl ?_
  refine pw_iald r_5_agesDiffer_5 sh51 (by omega) (by omega) ?_
  refine pw_if_lt r_5_agesDiffer_6 (fun h06 => ?_) (fun h06 => ?_)
  · skip
    refine pw_const r_5_agesDiffer_42 ?_
    refine pw_zret r_5_agesDiffer_43 rfl (Or.inl rfl) (Nat.le_refl _) ⟨rfl, ?_⟩
    exact pe hP (by first | exact (b2i_t (by unfold ageC; omega)).symm | exact (b2i_f (by unfold ageC; omega)).symm)
  · skip
    refine pw_aload r_5_agesDiffer_9 rfl ?_
    refine pw_getR r_5_agesDiffer_10 fs_5_4 (by decide) ?_
    refine pw_iload r_5_agesDiffer_13 rfl ?_
    refine pw_iald r_5_agesDiffer_14 sh51 (by omega) (by omega) ?_
    refine pw_if_lt r_5_agesDiffer_15 (fun h15 => ?_) (fun h15 => ?_)
    · skip
      refine pw_const r_5_agesDiffer_42 ?_
      refine pw_zret r_5_agesDiffer_43 rfl (Or.inl rfl) (Nat.le_refl _) ⟨rfl, ?_⟩
      exact pe hP (by first | exact (b2i_t (by unfold ageC; omega)).symm | exact (b2i_f (by unfold ageC; omega)).symm)
    · skip
      refine pw_aload r_5_agesDiffer_18 rfl ?_
      refine pw_getR r_5_agesDiffer_19 fs_5_4 (by decide) ?_
      refine pw_iload r_5_agesDiffer_22 rfl ?_
      refine pw_iald r_5_agesDiffer_23 sh51 (by omega) (by omega) ?_
      refine pw_aload r_5_agesDiffer_24 rfl ?_
      refine pw_getR r_5_agesDiffer_25 fs_5_4 (by decide) ?_
      refine pw_iload r_5_agesDiffer_28 rfl ?_
      refine pw_iald r_5_agesDiffer_29 sh51 (by omega) (by omega) ?_
      refine pw_isub r_5_agesDiffer_30 (by omega) ?_
      refine pw_mabs r_5_agesDiffer_31 rfl (Nat.le_of_ble_eq_true rfl) (Nat.le_refl _) ?_
      refine pw_top (b := max ((gA G 51 0 (a)) - (gA G 51 0 (b))) (-((gA G 51 0 (a)) - (gA G 51 0 (b))))) (absI_max (by omega)) ?_
      refine pw_iload r_5_agesDiffer_34 rfl ?_
      refine pw_icmp_le r_5_agesDiffer_35 (fun h35 => ?_) (fun h35 => ?_)
      · skip
        refine pw_const r_5_agesDiffer_42 ?_
        refine pw_zret r_5_agesDiffer_43 rfl (Or.inl rfl) (Nat.le_refl _) ⟨rfl, ?_⟩
        exact pe hP (by first | exact (b2i_t (by unfold ageC; omega)).symm | exact (b2i_f (by unfold ageC; omega)).symm)
      · skip
        refine pw_const r_5_agesDiffer_38 ?_
        refine pw_goto r_5_agesDiffer_39 ?_
        refine pw_zret r_5_agesDiffer_43 rfl (Or.inr rfl) (Nat.le_refl _) ⟨rfl, ?_⟩
        exact pe hP (by first | exact (b2i_t (by unfold ageC; omega)).symm | exact (b2i_f (by unfold ageC; omega)).symm)
set_option maxRecDepth 10000 in
theorem sp_X5_unitsDiffer {l : Launch} {w : Wo} {d : Nat} {G : PH} {P : Option PV → PH → Prop} {a b : Int} (hrw : 0 ≤ (gF G 5 0 0) ∧ (gF G 5 0 0) ≤ 100) (ha : 0 ≤ a ∧ a < (gF G 5 0 0)) (hb : 0 ≤ b ∧ b < (gF G 5 0 0)) (hP : P (some (vI (b2i (untC G a b)))) G) : PW l w M_X5_unitsDiffer (d + 0) 0 [some (vR 5 (0)), some (vI (a)), some (vI (b))] [] G P := by
  refine pw_aload r_5_unitsDiffer_0 rfl ?_
  refine pw_getR r_5_unitsDiffer_1 fs_5_5 (by decide) ?_
  refine pw_iload r_5_unitsDiffer_4 rfl ?_
  refine pw_iald r_5_unitsDiffer_5 sh52 (by omega) (by omega) ?_
  refine pw_if_lt r_5_unitsDiffer_6 (fun h06 => ?_) (fun h06 => ?_)
  · skip
    refine pw_const r_5_unitsDiffer_37 ?_
    refine pw_zret r_5_unitsDiffer_38 rfl (Or.inl rfl) (Nat.le_refl _) ⟨rfl, ?_⟩
    exact pe hP (by first | exact (b2i_t (by unfold untC; omega)).symm | exact (b2i_f (by unfold untC; omega)).symm)
  · skip
    refine pw_aload r_5_unitsDiffer_9 rfl ?_
    refine pw_getR r_5_unitsDiffer_10 fs_5_5 (by decide) ?_
    refine pw_iload r_5_unitsDiffer_13 rfl ?_
    refine pw_iald r_5_unitsDiffer_14 sh52 (by omega) (by omega) ?_
    refine pw_if_lt r_5_unitsDiffer_15 (fun h15 => ?_) (fun h15 => ?_)
    · skip
      refine pw_const r_5_unitsDiffer_37 ?_
      refine pw_zret r_5_unitsDiffer_38 rfl (Or.inl rfl) (Nat.le_refl _) ⟨rfl, ?_⟩
      exact pe hP (by first | exact (b2i_t (by unfold untC; omega)).symm | exact (b2i_f (by unfold untC; omega)).symm)
    · skip
      refine pw_aload r_5_unitsDiffer_18 rfl ?_
      refine pw_getR r_5_unitsDiffer_19 fs_5_5 (by decide) ?_
      refine pw_iload r_5_unitsDiffer_22 rfl ?_
      refine pw_iald r_5_unitsDiffer_23 sh52 (by omega) (by omega) ?_
      refine pw_aload r_5_unitsDiffer_24 rfl ?_
      refine pw_getR r_5_unitsDiffer_25 fs_5_5 (by decide) ?_
      refine pw_iload r_5_unitsDiffer_28 rfl ?_
      refine pw_iald r_5_unitsDiffer_29 sh52 (by omega) (by omega) ?_
      refine pw_icmp_eq r_5_unitsDiffer_30 (fun h30 => ?_) (fun h30 => ?_)
      · skip
        refine pw_const r_5_unitsDiffer_37 ?_
        refine pw_zret r_5_unitsDiffer_38 rfl (Or.inl rfl) (Nat.le_refl _) ⟨rfl, ?_⟩
        exact pe hP (by first | exact (b2i_t (by unfold untC; omega)).symm | exact (b2i_f (by unfold untC; omega)).symm)
      · skip
        refine pw_const r_5_unitsDiffer_33 ?_
        refine pw_goto r_5_unitsDiffer_34 ?_
        refine pw_zret r_5_unitsDiffer_38 rfl (Or.inr rfl) (Nat.le_refl _) ⟨rfl, ?_⟩
        exact pe hP (by first | exact (b2i_t (by unfold untC; omega)).symm | exact (b2i_f (by unfold untC; omega)).symm)
set_option maxRecDepth 10000 in
theorem sp_X5_isWhole {l : Launch} {w : Wo} {d : Nat} {G : PH} {P : Option PV → PH → Prop} {a : Int} (hrw : 0 ≤ (gF G 5 0 0) ∧ (gF G 5 0 0) ≤ 100) (hrc : rowsC G) (ha : 0 ≤ a ∧ a < (gF G 5 0 0)) (hP : P (some (vI (b2i (whoC G a)))) G) : PW l w M_X5_isWhole (d + 0) 0 [some (vR 5 (0)), some (vI (a)), none] [] G P := by
  have hca := hrc a ha.1 ha.2
  refine pw_const r_5_isWhole_0 ?_
  refine pw_istore (ls' := [some (vR 5 (0)), some (vI (a)), some (vI (0))]) r_5_isWhole_1 rfl rfl ?_
  have L2 : ∀ (nF : Nat) (i : Int), (hi : 0 ≤ i ∧ i ≤ (gA G 50 0 (a))) → (hw : ∀ j, 0 ≤ j → j < i → (gA G 49 (a) (j)) ≠ 27) → ((gA G 50 0 (a)) - i).toNat < nF → PW l w M_X5_isWhole (d + 0) 2 [some (vR 5 (0)), some (vI (a)), some (vI (i))] [] G P := by
    intro nF
    induction nF with
    | zero => intro _ _ _ hM; exact absurd hM (Nat.not_lt_zero _)
    | succ nF ih2 =>
      intro i hi hw hM2
      refine pw_iload r_5_isWhole_2 rfl ?_
      refine pw_aload r_5_isWhole_3 rfl ?_
      refine pw_getR r_5_isWhole_4 fs_5_3 (by decide) ?_
      refine pw_iload r_5_isWhole_7 rfl ?_
      refine pw_iald r_5_isWhole_8 sh50 (by omega) (by omega) ?_
      refine pw_icmp_ge r_5_isWhole_9 (fun h09 => ?_) (fun h09 => ?_)
      · skip
        refine pw_aload r_5_isWhole_38 rfl ?_
        refine pw_getR r_5_isWhole_39 fs_5_4 (by decide) ?_
        refine pw_iload r_5_isWhole_42 rfl ?_
        refine pw_iald r_5_isWhole_43 sh51 (by omega) (by omega) ?_
        refine pw_if_lt r_5_isWhole_44 (fun h44 => ?_) (fun h44 => ?_)
        · skip
          refine pw_const r_5_isWhole_60 ?_
          refine pw_zret r_5_isWhole_61 rfl (Or.inl rfl) (Nat.le_refl _) ⟨rfl, ?_⟩
          exact pe hP (by first | exact (b2i_t ⟨fun j x y => hw j x (by omega), by omega, by omega⟩).symm | exact (b2i_f (fun z => by have := z.2; omega)).symm)
        · skip
          refine pw_aload r_5_isWhole_47 rfl ?_
          refine pw_getR r_5_isWhole_48 fs_5_5 (by decide) ?_
          refine pw_iload r_5_isWhole_51 rfl ?_
          refine pw_iald r_5_isWhole_52 sh52 (by omega) (by omega) ?_
          refine pw_if_lt r_5_isWhole_53 (fun h53 => ?_) (fun h53 => ?_)
          · skip
            refine pw_const r_5_isWhole_60 ?_
            refine pw_zret r_5_isWhole_61 rfl (Or.inl rfl) (Nat.le_refl _) ⟨rfl, ?_⟩
            exact pe hP (by first | exact (b2i_t ⟨fun j x y => hw j x (by omega), by omega, by omega⟩).symm | exact (b2i_f (fun z => by have := z.2; omega)).symm)
          · skip
            refine pw_const r_5_isWhole_56 ?_
            refine pw_goto r_5_isWhole_57 ?_
            refine pw_zret r_5_isWhole_61 rfl (Or.inr rfl) (Nat.le_refl _) ⟨rfl, ?_⟩
            exact pe hP (by first | exact (b2i_t ⟨fun j x y => hw j x (by omega), by omega, by omega⟩).symm | exact (b2i_f (fun z => by have := z.2; omega)).symm)
      · skip
        refine pw_iload r_5_isWhole_12 rfl ?_
        refine pw_const r_5_isWhole_13 ?_
        refine pw_icmp_ge r_5_isWhole_14 (fun h14 => ?_) (fun h14 => ?_)
        · skip
          refine pw_aload r_5_isWhole_38 rfl ?_
          refine pw_getR r_5_isWhole_39 fs_5_4 (by decide) ?_
          refine pw_iload r_5_isWhole_42 rfl ?_
          refine pw_iald r_5_isWhole_43 sh51 (by omega) (by omega) ?_
          refine pw_if_lt r_5_isWhole_44 (fun h44 => ?_) (fun h44 => ?_)
          · skip
            refine pw_const r_5_isWhole_60 ?_
            refine pw_zret r_5_isWhole_61 rfl (Or.inl rfl) (Nat.le_refl _) ⟨rfl, ?_⟩
            exact pe hP (by first | exact (b2i_t ⟨fun j x y => hw j x (by omega), by omega, by omega⟩).symm | exact (b2i_f (fun z => by have := z.2; omega)).symm)
          · skip
            refine pw_aload r_5_isWhole_47 rfl ?_
            refine pw_getR r_5_isWhole_48 fs_5_5 (by decide) ?_
            refine pw_iload r_5_isWhole_51 rfl ?_
            refine pw_iald r_5_isWhole_52 sh52 (by omega) (by omega) ?_
            refine pw_if_lt r_5_isWhole_53 (fun h53 => ?_) (fun h53 => ?_)
            · skip
              refine pw_const r_5_isWhole_60 ?_
              refine pw_zret r_5_isWhole_61 rfl (Or.inl rfl) (Nat.le_refl _) ⟨rfl, ?_⟩
              exact pe hP (by first | exact (b2i_t ⟨fun j x y => hw j x (by omega), by omega, by omega⟩).symm | exact (b2i_f (fun z => by have := z.2; omega)).symm)
            · skip
              refine pw_const r_5_isWhole_56 ?_
              refine pw_goto r_5_isWhole_57 ?_
              refine pw_zret r_5_isWhole_61 rfl (Or.inr rfl) (Nat.le_refl _) ⟨rfl, ?_⟩
              exact pe hP (by first | exact (b2i_t ⟨fun j x y => hw j x (by omega), by omega, by omega⟩).symm | exact (b2i_f (fun z => by have := z.2; omega)).symm)
        · skip
          refine pw_aload r_5_isWhole_17 rfl ?_
          refine pw_getR r_5_isWhole_18 fs_5_2 (by decide) ?_
          refine pw_iload r_5_isWhole_21 rfl ?_
          refine pw_aaldS r_5_isWhole_22 sh48 (by decide) (by decide) aS48 rw49 (by omega) (by omega) ?_
          refine pw_iload r_5_isWhole_23 rfl ?_
          refine pw_iald r_5_isWhole_24 sh49 (by omega) (by omega) ?_
          refine pw_const r_5_isWhole_25 ?_
          refine pw_icmp_ne r_5_isWhole_27 (fun h27 => ?_) (fun h27 => ?_)
          · skip
            refine pw_iinc (b := 0) (ls' := [some (vR 5 (0)), some (vI (a)), some (vI ((i + 1)))]) r_5_isWhole_32 rfl rfl (by omega) rfl ?_
            refine pw_goto r_5_isWhole_35 ?_
            exact ih2 ((i + 1)) (by omega) (all_s hw (by omega)) (by omega)
          · skip
            refine pw_const r_5_isWhole_30 ?_
            refine pw_zret r_5_isWhole_31 rfl (Or.inl rfl) (Nat.le_refl _) ⟨rfl, ?_⟩
            exact pe hP (b2i_f (fun z => absurd (show (gA G 49 (a) (i)) = 27 by omega) (z.1 i hi.1 (by omega)))).symm
  exact L2 _ (0) (by omega) (fun j x y => by omega) (Nat.lt_succ_self _)
set_option maxRecDepth 10000 in
theorem sp_X5_whyApart {l : Launch} {w : Wo} {d : Nat} {G : PH} {P : Option PV → PH → Prop} {a b : Int} (hrw : 0 ≤ (gF G 5 0 0) ∧ (gF G 5 0 0) ≤ 100) (hrc : rowsC G) (ha : 0 ≤ a ∧ a < (gF G 5 0 0)) (hb : 0 ≤ b ∧ b < (gF G 5 0 0)) (hP : P (some (vI (whyC G a b))) G) : PW l w M_X5_whyApart (d + 2) 0 [some (vR 5 (0)), some (vI (a)), some (vI (b)), none, none, none, none, none] [] G P := by
  have hca := hrc a ha.1 ha.2
  have hcb := hrc b hb.1 hb.2
  have L29 : ∀ (z o : Int), (hz : z = zeC G a b) → (ho : o = onC G a b) → PW l w M_X5_whyApart (d + 2) 29 [some (vR 5 (0)), some (vI (a)), some (vI (b)), some (vI (z)), none, none, none, none] [vI (o)] G P := by
    intro z o hz ho
    have hzz : 0 ≤ z ∧ z < (gF G 5 0 0) := by rw [hz]; unfold zeC; split <;> omega
    have hoo : 0 ≤ o ∧ o < (gF G 5 0 0) := by rw [ho]; unfold onC; split <;> omega
    have hcz := hrc z hzz.1 hzz.2
    have hco := hrc o hoo.1 hoo.2
    refine pw_istore (ls' := [some (vR 5 (0)), some (vI (a)), some (vI (b)), some (vI (z)), some (vI (o)), none, none, none]) r_5_whyApart_29 rfl rfl ?_
    refine pw_aload r_5_whyApart_31 rfl ?_
    refine pw_getR r_5_whyApart_32 fs_5_3 (by decide) ?_
    refine pw_iload r_5_whyApart_35 rfl ?_
    refine pw_iald r_5_whyApart_36 sh50 (by omega) (by omega) ?_
    refine pw_aload r_5_whyApart_37 rfl ?_
    refine pw_getR r_5_whyApart_38 fs_5_3 (by decide) ?_
    refine pw_iload r_5_whyApart_41 rfl ?_
    refine pw_iald r_5_whyApart_43 sh50 (by omega) (by omega) ?_
    refine pw_icmp_eq r_5_whyApart_44 (fun h44 => ?_) (fun h44 => ?_)
    · skip
      have hln : lenC G a b := by unfold lenC; rw [← hz, ← ho]; omega
      refine pw_const r_5_whyApart_49 ?_
      refine pw_istore (ls' := [some (vR 5 (0)), some (vI (a)), some (vI (b)), some (vI (z)), some (vI (o)), some (vI (0)), none, none]) r_5_whyApart_50 rfl rfl ?_
      have L52 : ∀ (nF : Nat) (i : Int), (hi : 0 ≤ i ∧ i ≤ (gA G 50 0 (z))) → (hf : ∀ j, 0 ≤ j → j < i → fit1C G z o j) → ((gA G 50 0 (z)) - i).toNat < nF → PW l w M_X5_whyApart (d + 2) 52 [some (vR 5 (0)), some (vI (a)), some (vI (b)), some (vI (z)), some (vI (o)), some (vI (i)), none, none] [] G P := by
        intro nF
        induction nF with
        | zero => intro _ _ _ hM; exact absurd hM (Nat.not_lt_zero _)
        | succ nF ih52 =>
          intro i hi hf hM52
          refine pw_iload r_5_whyApart_52 rfl ?_
          refine pw_aload r_5_whyApart_54 rfl ?_
          refine pw_getR r_5_whyApart_55 fs_5_3 (by decide) ?_
          refine pw_iload r_5_whyApart_58 rfl ?_
          refine pw_iald r_5_whyApart_59 sh50 (by omega) (by omega) ?_
          refine pw_icmp_ge r_5_whyApart_60 (fun h60 => ?_) (fun h60 => ?_)
          · skip
            have hft : fitC G a b := by unfold fitC; rw [← hz, ← ho]; exact fun j x y => hf j x (by omega)
            refine pw_aload r_5_whyApart_130 rfl ?_
            refine pw_iload r_5_whyApart_131 rfl ?_
            refine pw_iload r_5_whyApart_132 rfl ?_
            refine pw_const r_5_whyApart_133 ?_
            refine pw_callV (av := [vI (a), vI (b), vI (1)]) (st := []) (ls0 := [some (vR 5 (0)), some (vI (a)), some (vI (b)), some (vI (1))]) r_5_whyApart_134 rfl rfl rfl (Nat.le_refl _) ?_
            refine sp_X5_agesDiffer (by first | assumption | exact hrw | omega) (by first | assumption | exact hrc | omega) (by first | assumption | exact ha | omega) (by first | assumption | exact hb | omega) ?_
            refine pw_if_eqB r_5_whyApart_137 (fun h137 => ?_) (fun h137 => ?_)
            · skip
              refine pw_aload r_5_whyApart_142 rfl ?_
              refine pw_iload r_5_whyApart_143 rfl ?_
              refine pw_iload r_5_whyApart_144 rfl ?_
              refine pw_callV (av := [vI (a), vI (b)]) (st := []) (ls0 := [some (vR 5 (0)), some (vI (a)), some (vI (b))]) r_5_whyApart_145 rfl rfl rfl (Nat.le_refl _) ?_
              refine sp_X5_unitsDiffer (by first | assumption | exact hrw | omega) (by first | assumption | exact ha | omega) (by first | assumption | exact hb | omega) ?_
              refine pw_if_eqB r_5_whyApart_148 (fun h148 => ?_) (fun h148 => ?_)
              · skip
                refine pw_const r_5_whyApart_155 ?_
                refine pw_iret r_5_whyApart_156 rfl (Nat.le_refl _) ⟨rfl, ?_⟩
                exact pe hP (by first | exact (why_4 hln hft h137 h148).symm | exact (why_0 hln hft h137 h148).symm)
              · skip
                refine pw_const r_5_whyApart_151 ?_
                refine pw_goto r_5_whyApart_152 ?_
                refine pw_iret r_5_whyApart_156 rfl (Nat.le_refl _) ⟨rfl, ?_⟩
                exact pe hP (by first | exact (why_4 hln hft h137 h148).symm | exact (why_0 hln hft h137 h148).symm)
            · skip
              refine pw_const r_5_whyApart_140 ?_
              refine pw_iret r_5_whyApart_141 rfl (Nat.le_refl _) ⟨rfl, ?_⟩
              exact pe hP (why_3 hln hft h137).symm
          · skip
            refine pw_iload r_5_whyApart_63 rfl ?_
            refine pw_const r_5_whyApart_65 ?_
            refine pw_icmp_ge r_5_whyApart_66 (fun h66 => ?_) (fun h66 => ?_)
            · skip
              have hft : fitC G a b := by unfold fitC; rw [← hz, ← ho]; exact fun j x y => hf j x (by omega)
              refine pw_aload r_5_whyApart_130 rfl ?_
              refine pw_iload r_5_whyApart_131 rfl ?_
              refine pw_iload r_5_whyApart_132 rfl ?_
              refine pw_const r_5_whyApart_133 ?_
              refine pw_callV (av := [vI (a), vI (b), vI (1)]) (st := []) (ls0 := [some (vR 5 (0)), some (vI (a)), some (vI (b)), some (vI (1))]) r_5_whyApart_134 rfl rfl rfl (Nat.le_refl _) ?_
              refine sp_X5_agesDiffer (by first | assumption | exact hrw | omega) (by first | assumption | exact hrc | omega) (by first | assumption | exact ha | omega) (by first | assumption | exact hb | omega) ?_
              refine pw_if_eqB r_5_whyApart_137 (fun h137 => ?_) (fun h137 => ?_)
              · skip
                refine pw_aload r_5_whyApart_142 rfl ?_
                refine pw_iload r_5_whyApart_143 rfl ?_
                refine pw_iload r_5_whyApart_144 rfl ?_
                refine pw_callV (av := [vI (a), vI (b)]) (st := []) (ls0 := [some (vR 5 (0)), some (vI (a)), some (vI (b))]) r_5_whyApart_145 rfl rfl rfl (Nat.le_refl _) ?_
                refine sp_X5_unitsDiffer (by first | assumption | exact hrw | omega) (by first | assumption | exact ha | omega) (by first | assumption | exact hb | omega) ?_
                refine pw_if_eqB r_5_whyApart_148 (fun h148 => ?_) (fun h148 => ?_)
                · skip
                  refine pw_const r_5_whyApart_155 ?_
                  refine pw_iret r_5_whyApart_156 rfl (Nat.le_refl _) ⟨rfl, ?_⟩
                  exact pe hP (by first | exact (why_4 hln hft h137 h148).symm | exact (why_0 hln hft h137 h148).symm)
                · skip
                  refine pw_const r_5_whyApart_151 ?_
                  refine pw_goto r_5_whyApart_152 ?_
                  refine pw_iret r_5_whyApart_156 rfl (Nat.le_refl _) ⟨rfl, ?_⟩
                  exact pe hP (by first | exact (why_4 hln hft h137 h148).symm | exact (why_0 hln hft h137 h148).symm)
              · skip
                refine pw_const r_5_whyApart_140 ?_
                refine pw_iret r_5_whyApart_141 rfl (Nat.le_refl _) ⟨rfl, ?_⟩
                exact pe hP (why_3 hln hft h137).symm
            · skip
              have hlz := hcz.2.1 i hi.1 (by omega)
              have hlo := hco.2.1 i hi.1 (by omega)
              refine pw_aload r_5_whyApart_69 rfl ?_
              refine pw_getR r_5_whyApart_70 fs_5_2 (by decide) ?_
              refine pw_iload r_5_whyApart_73 rfl ?_
              refine pw_aaldS r_5_whyApart_74 sh48 (by decide) (by decide) aS48 rw49 (by omega) (by omega) ?_
              refine pw_iload r_5_whyApart_75 rfl ?_
              refine pw_iald r_5_whyApart_77 sh49 (by omega) (by omega) ?_
              refine pw_istore (ls' := [some (vR 5 (0)), some (vI (a)), some (vI (b)), some (vI (z)), some (vI (o)), some (vI (i)), some (vI (gA G 49 (z) (i))), none]) r_5_whyApart_78 rfl rfl ?_
              refine pw_aload r_5_whyApart_80 rfl ?_
              refine pw_getR r_5_whyApart_81 fs_5_2 (by decide) ?_
              refine pw_iload r_5_whyApart_84 rfl ?_
              refine pw_aaldS r_5_whyApart_86 sh48 (by decide) (by decide) aS48 rw49 (by omega) (by omega) ?_
              refine pw_iload r_5_whyApart_87 rfl ?_
              refine pw_iald r_5_whyApart_89 sh49 (by omega) (by omega) ?_
              refine pw_istore (ls' := [some (vR 5 (0)), some (vI (a)), some (vI (b)), some (vI (z)), some (vI (o)), some (vI (i)), some (vI (gA G 49 (z) (i))), some (vI (gA G 49 (o) (i)))]) r_5_whyApart_90 rfl rfl ?_
              refine pw_iload r_5_whyApart_92 rfl ?_
              refine pw_const r_5_whyApart_94 ?_
              refine pw_icmp_eq r_5_whyApart_96 (fun h96 => ?_) (fun h96 => ?_)
              · skip
                refine pw_iinc (b := 0) (ls' := [some (vR 5 (0)), some (vI (a)), some (vI (b)), some (vI (z)), some (vI (o)), some (vI ((i + 1))), some (vI (gA G 49 (z) (i))), some (vI (gA G 49 (o) (i)))]) r_5_whyApart_124 rfl rfl (by omega) rfl ?_
                refine pw_goto r_5_whyApart_127 ?_
                refine pw_weakL (ls' := [some (vR 5 (0)), some (vI (a)), some (vI (b)), some (vI (z)), some (vI (o)), some (vI ((i + 1))), none, none]) (⟨rfl, ⟨rfl, ⟨rfl, ⟨rfl, ⟨rfl, ⟨rfl, trivial⟩⟩⟩⟩⟩⟩) ?_
                exact ih52 ((i + 1)) (by omega) (all_s hf (by unfold fit1C; omega)) (by omega)
              · skip
                refine pw_iload r_5_whyApart_99 rfl ?_
                refine pw_const r_5_whyApart_101 ?_
                refine pw_icmp_eq r_5_whyApart_103 (fun h103 => ?_) (fun h103 => ?_)
                · skip
                  refine pw_iinc (b := 0) (ls' := [some (vR 5 (0)), some (vI (a)), some (vI (b)), some (vI (z)), some (vI (o)), some (vI ((i + 1))), some (vI (gA G 49 (z) (i))), some (vI (gA G 49 (o) (i)))]) r_5_whyApart_124 rfl rfl (by omega) rfl ?_
                  refine pw_goto r_5_whyApart_127 ?_
                  refine pw_weakL (ls' := [some (vR 5 (0)), some (vI (a)), some (vI (b)), some (vI (z)), some (vI (o)), some (vI ((i + 1))), none, none]) (⟨rfl, ⟨rfl, ⟨rfl, ⟨rfl, ⟨rfl, ⟨rfl, trivial⟩⟩⟩⟩⟩⟩) ?_
                  exact ih52 ((i + 1)) (by omega) (all_s hf (by unfold fit1C; omega)) (by omega)
                · skip
                  refine pw_aload r_5_whyApart_106 rfl ?_
                  refine pw_getR r_5_whyApart_107 fs_5_6 (by decide) ?_
                  refine pw_iload r_5_whyApart_110 rfl ?_
                  refine pw_const r_5_whyApart_112 ?_
                  refine pw_imul r_5_whyApart_114 (by omega) ?_
                  refine pw_iload r_5_whyApart_115 rfl ?_
                  refine pw_iadd r_5_whyApart_117 (by omega) ?_
                  refine pw_zald r_5_whyApart_118 sh53 (by omega) (by omega) ?_
                  refine pw_if_ne r_5_whyApart_119 (fun h119 => ?_) (fun h119 => ?_)
                  · skip
                    refine pw_iinc (b := 0) (ls' := [some (vR 5 (0)), some (vI (a)), some (vI (b)), some (vI (z)), some (vI (o)), some (vI ((i + 1))), some (vI (gA G 49 (z) (i))), some (vI (gA G 49 (o) (i)))]) r_5_whyApart_124 rfl rfl (by omega) rfl ?_
                    refine pw_goto r_5_whyApart_127 ?_
                    refine pw_weakL (ls' := [some (vR 5 (0)), some (vI (a)), some (vI (b)), some (vI (z)), some (vI (o)), some (vI ((i + 1))), none, none]) (⟨rfl, ⟨rfl, ⟨rfl, ⟨rfl, ⟨rfl, ⟨rfl, trivial⟩⟩⟩⟩⟩⟩) ?_
                    exact ih52 ((i + 1)) (by omega) (all_s hf (by unfold fit1C; omega)) (by omega)
                  · skip
                    refine pw_const r_5_whyApart_122 ?_
                    refine pw_iret r_5_whyApart_123 rfl (Nat.le_refl _) ⟨rfl, ?_⟩
                    exact pe hP (why_2 hln (fun q => by unfold fitC at q; rw [← hz, ← ho] at q; have := q i hi.1 (by omega); unfold fit1C at this; omega)).symm
      exact L52 _ (0) (by omega) (fun j x y => by omega) (Nat.lt_succ_self _)
    · skip
      refine pw_const r_5_whyApart_47 ?_
      refine pw_iret r_5_whyApart_48 rfl (Nat.le_refl _) ⟨rfl, ?_⟩
      exact pe hP (why_1 (by unfold lenC; rw [← hz, ← ho]; omega)).symm
  have L14 : ∀ (z : Int), (hz : z = zeC G a b) → PW l w M_X5_whyApart (d + 2) 14 [some (vR 5 (0)), some (vI (a)), some (vI (b)), none, none, none, none, none] [vI (z)] G P := by
    intro z hz
    refine pw_istore (ls' := [some (vR 5 (0)), some (vI (a)), some (vI (b)), some (vI (z)), none, none, none, none]) r_5_whyApart_14 rfl rfl ?_
    refine pw_aload r_5_whyApart_15 rfl ?_
    refine pw_getR r_5_whyApart_16 fs_5_1 (by decide) ?_
    refine pw_iload r_5_whyApart_19 rfl ?_
    refine pw_iald r_5_whyApart_20 sh47 (by omega) (by omega) ?_
    refine pw_if_ne r_5_whyApart_21 (fun h21 => ?_) (fun h21 => ?_)
    · skip
      refine pw_iload r_5_whyApart_28 rfl ?_
      exact L29 (z) (a) (by first | assumption | omega) (by unfold onC; first | exact (if_pos (by omega)).symm | exact (if_neg (by omega)).symm) 
    · skip
      refine pw_iload r_5_whyApart_24 rfl ?_
      refine pw_goto r_5_whyApart_25 ?_
      exact L29 (z) (b) (by first | assumption | omega) (by unfold onC; first | exact (if_pos (by omega)).symm | exact (if_neg (by omega)).symm) 
  refine pw_aload r_5_whyApart_0 rfl ?_
  refine pw_getR r_5_whyApart_1 fs_5_1 (by decide) ?_
  refine pw_iload r_5_whyApart_4 rfl ?_
  refine pw_iald r_5_whyApart_5 sh47 (by omega) (by omega) ?_
  refine pw_if_ne r_5_whyApart_6 (fun h06 => ?_) (fun h06 => ?_)
  · skip
    refine pw_iload r_5_whyApart_13 rfl ?_
    exact L14 (b) (by unfold zeC; first | exact (if_pos (by omega)).symm | exact (if_neg (by omega)).symm) 
  · skip
    refine pw_iload r_5_whyApart_9 rfl ?_
    refine pw_goto r_5_whyApart_10 ?_
    exact L14 (a) (by unfold zeC; first | exact (if_pos (by omega)).symm | exact (if_neg (by omega)).symm) 
set_option maxRecDepth 10000 in
theorem sp_X5_tellSame {l : Launch} {w : Wo} {d : Nat} {G : PH} {P : Option PV → PH → Prop} {a b k : Int} (hrw : 0 ≤ (gF G 5 0 0) ∧ (gF G 5 0 0) ≤ 100) (hrc : rowsC G) (h1 : ¬ ((0 ≤ a ∧ a < (gF G 5 0 0)) ∧ (0 ≤ b ∧ b < (gF G 5 0 0)) ∧ (gA G 47 0 (a)) ≠ (gA G 47 0 (b)) ∧ 0 ≤ k ∧ k ≤ 1) → P (some (vI (-1))) G) (h2 : ((0 ≤ a ∧ a < (gF G 5 0 0)) ∧ (0 ≤ b ∧ b < (gF G 5 0 0)) ∧ (gA G 47 0 (a)) ≠ (gA G 47 0 (b)) ∧ 0 ≤ k ∧ k ≤ 1) → P (some (vI (sameV k (whyC G a b) (whoC G a ∧ whoC G b)))) G) : PW l w M_X5_tellSame (d + 3) 0 [some (vR 5 (0)), some (vI (a)), some (vI (b)), some (vI (k)), none] [] G P := by
  refine pw_aload r_5_tellSame_0 rfl ?_
  refine pw_iload r_5_tellSame_1 rfl ?_
  refine pw_callV (av := [vI (a)]) (st := []) (ls0 := [some (vR 5 (0)), some (vI (a))]) r_5_tellSame_2 rfl rfl rfl (Nat.le_refl _) ?_
  refine sp_X5_isRow (by first | assumption | exact hrw | omega) ?_
  refine pw_if_eqB r_5_tellSame_5 (fun h05 => ?_) (fun h05 => ?_)
  · skip
    refine pw_const r_5_tellSame_40 ?_
    refine pw_iret r_5_tellSame_41 rfl (Nat.le_refl _) ⟨rfl, ?_⟩
    first | exact h1 (by omega) | exact pe (h2 (by omega)) (by rw [show k = 1 by omega, same_1]) | exact pe (h2 (by omega)) (same_n (by omega) (by omega)).symm | exact pe (h2 (by omega)) (same_t (by omega) (by omega) ⟨by assumption, by assumption⟩).symm | exact pe (h2 (by omega)) (same_f (by omega) (by omega) (fun q => absurd q.1 (by assumption))).symm | exact pe (h2 (by omega)) (same_f (by omega) (by omega) (fun q => absurd q.2 (by assumption))).symm
  · skip
    refine pw_aload r_5_tellSame_8 rfl ?_
    refine pw_iload r_5_tellSame_9 rfl ?_
    refine pw_callV (av := [vI (b)]) (st := []) (ls0 := [some (vR 5 (0)), some (vI (b))]) r_5_tellSame_10 rfl rfl rfl (Nat.le_refl _) ?_
    refine sp_X5_isRow (by first | assumption | exact hrw | omega) ?_
    refine pw_if_eqB r_5_tellSame_13 (fun h13 => ?_) (fun h13 => ?_)
    · skip
      refine pw_const r_5_tellSame_40 ?_
      refine pw_iret r_5_tellSame_41 rfl (Nat.le_refl _) ⟨rfl, ?_⟩
      first | exact h1 (by omega) | exact pe (h2 (by omega)) (by rw [show k = 1 by omega, same_1]) | exact pe (h2 (by omega)) (same_n (by omega) (by omega)).symm | exact pe (h2 (by omega)) (same_t (by omega) (by omega) ⟨by assumption, by assumption⟩).symm | exact pe (h2 (by omega)) (same_f (by omega) (by omega) (fun q => absurd q.1 (by assumption))).symm | exact pe (h2 (by omega)) (same_f (by omega) (by omega) (fun q => absurd q.2 (by assumption))).symm
    · skip
      refine pw_aload r_5_tellSame_16 rfl ?_
      refine pw_getR r_5_tellSame_17 fs_5_1 (by decide) ?_
      refine pw_iload r_5_tellSame_20 rfl ?_
      refine pw_iald r_5_tellSame_21 sh47 (by omega) (by omega) ?_
      refine pw_aload r_5_tellSame_22 rfl ?_
      refine pw_getR r_5_tellSame_23 fs_5_1 (by decide) ?_
      refine pw_iload r_5_tellSame_26 rfl ?_
      refine pw_iald r_5_tellSame_27 sh47 (by omega) (by omega) ?_
      refine pw_icmp_eq r_5_tellSame_28 (fun h28 => ?_) (fun h28 => ?_)
      · skip
        refine pw_const r_5_tellSame_40 ?_
        refine pw_iret r_5_tellSame_41 rfl (Nat.le_refl _) ⟨rfl, ?_⟩
        first | exact h1 (by omega) | exact pe (h2 (by omega)) (by rw [show k = 1 by omega, same_1]) | exact pe (h2 (by omega)) (same_n (by omega) (by omega)).symm | exact pe (h2 (by omega)) (same_t (by omega) (by omega) ⟨by assumption, by assumption⟩).symm | exact pe (h2 (by omega)) (same_f (by omega) (by omega) (fun q => absurd q.1 (by assumption))).symm | exact pe (h2 (by omega)) (same_f (by omega) (by omega) (fun q => absurd q.2 (by assumption))).symm
      · skip
        refine pw_iload r_5_tellSame_31 rfl ?_
        refine pw_const r_5_tellSame_32 ?_
        refine pw_const r_5_tellSame_33 ?_
        refine pw_callS (av := [vI (k), vI (0), vI (1)]) (st := []) (ls0 := [some (vI (k)), some (vI (0)), some (vI (1))]) r_5_tellSame_34 rfl rfl rfl (Nat.le_refl _) ?_
        refine sp_X11_within  ?_
        refine pw_if_neB r_5_tellSame_37 (fun h37 => ?_) (fun h37 => ?_)
        · skip
          refine pw_aload r_5_tellSame_42 rfl ?_
          refine pw_iload r_5_tellSame_43 rfl ?_
          refine pw_iload r_5_tellSame_44 rfl ?_
          refine pw_callV (av := [vI (a), vI (b)]) (st := []) (ls0 := [some (vR 5 (0)), some (vI (a)), some (vI (b)), none, none, none, none, none]) r_5_tellSame_45 rfl rfl rfl (Nat.le_refl _) ?_
          refine sp_X5_whyApart (by first | assumption | exact hrw | omega) (by first | assumption | exact hrc | omega) (by first | assumption | exact ha | omega) (by first | assumption | exact hb | omega) ?_
          refine pw_istore (ls' := [some (vR 5 (0)), some (vI (a)), some (vI (b)), some (vI (k)), some (vI (whyC G a b))]) r_5_tellSame_48 rfl rfl ?_
          refine pw_iload r_5_tellSame_50 rfl ?_
          refine pw_const r_5_tellSame_51 ?_
          refine pw_icmp_ne r_5_tellSame_52 (fun h52 => ?_) (fun h52 => ?_)
          · skip
            refine pw_iload r_5_tellSame_58 rfl ?_
            refine pw_if_eq r_5_tellSame_60 (fun h60 => ?_) (fun h60 => ?_)
            · skip
              refine pw_aload r_5_tellSame_65 rfl ?_
              refine pw_iload r_5_tellSame_66 rfl ?_
              refine pw_callV (av := [vI (a)]) (st := []) (ls0 := [some (vR 5 (0)), some (vI (a)), none]) r_5_tellSame_67 rfl rfl rfl (Nat.le_refl _) ?_
              refine sp_X5_isWhole (by first | assumption | exact hrw | omega) (by first | assumption | exact hrc | omega) (by first | assumption | exact ha | omega) ?_
              refine pw_if_eqB r_5_tellSame_70 (fun h70 => ?_) (fun h70 => ?_)
              · skip
                refine pw_const r_5_tellSame_85 ?_
                refine pw_iret r_5_tellSame_86 rfl (Nat.le_refl _) ⟨rfl, ?_⟩
                first | exact h1 (by omega) | exact pe (h2 (by omega)) (by rw [show k = 1 by omega, same_1]) | exact pe (h2 (by omega)) (same_n (by omega) (by omega)).symm | exact pe (h2 (by omega)) (same_t (by omega) (by omega) ⟨by assumption, by assumption⟩).symm | exact pe (h2 (by omega)) (same_f (by omega) (by omega) (fun q => absurd q.1 (by assumption))).symm | exact pe (h2 (by omega)) (same_f (by omega) (by omega) (fun q => absurd q.2 (by assumption))).symm
              · skip
                refine pw_aload r_5_tellSame_73 rfl ?_
                refine pw_iload r_5_tellSame_74 rfl ?_
                refine pw_callV (av := [vI (b)]) (st := []) (ls0 := [some (vR 5 (0)), some (vI (b)), none]) r_5_tellSame_75 rfl rfl rfl (Nat.le_refl _) ?_
                refine sp_X5_isWhole (by first | assumption | exact hrw | omega) (by first | assumption | exact hrc | omega) (by first | assumption | exact ha | omega) ?_
                refine pw_if_eqB r_5_tellSame_78 (fun h78 => ?_) (fun h78 => ?_)
                · skip
                  refine pw_const r_5_tellSame_85 ?_
                  refine pw_iret r_5_tellSame_86 rfl (Nat.le_refl _) ⟨rfl, ?_⟩
                  first | exact h1 (by omega) | exact pe (h2 (by omega)) (by rw [show k = 1 by omega, same_1]) | exact pe (h2 (by omega)) (same_n (by omega) (by omega)).symm | exact pe (h2 (by omega)) (same_t (by omega) (by omega) ⟨by assumption, by assumption⟩).symm | exact pe (h2 (by omega)) (same_f (by omega) (by omega) (fun q => absurd q.1 (by assumption))).symm | exact pe (h2 (by omega)) (same_f (by omega) (by omega) (fun q => absurd q.2 (by assumption))).symm
                · skip
                  refine pw_const r_5_tellSame_81 ?_
                  refine pw_goto r_5_tellSame_82 ?_
                  refine pw_iret r_5_tellSame_86 rfl (Nat.le_refl _) ⟨rfl, ?_⟩
                  first | exact h1 (by omega) | exact pe (h2 (by omega)) (by rw [show k = 1 by omega, same_1]) | exact pe (h2 (by omega)) (same_n (by omega) (by omega)).symm | exact pe (h2 (by omega)) (same_t (by omega) (by omega) ⟨by assumption, by assumption⟩).symm | exact pe (h2 (by omega)) (same_f (by omega) (by omega) (fun q => absurd q.1 (by assumption))).symm | exact pe (h2 (by omega)) (same_f (by omega) (by omega) (fun q => absurd q.2 (by assumption))).symm
            · skip
              refine pw_const r_5_tellSame_63 ?_
              refine pw_iret r_5_tellSame_64 rfl (Nat.le_refl _) ⟨rfl, ?_⟩
              first | exact h1 (by omega) | exact pe (h2 (by omega)) (by rw [show k = 1 by omega, same_1]) | exact pe (h2 (by omega)) (same_n (by omega) (by omega)).symm | exact pe (h2 (by omega)) (same_t (by omega) (by omega) ⟨by assumption, by assumption⟩).symm | exact pe (h2 (by omega)) (same_f (by omega) (by omega) (fun q => absurd q.1 (by assumption))).symm | exact pe (h2 (by omega)) (same_f (by omega) (by omega) (fun q => absurd q.2 (by assumption))).symm
          · skip
            refine pw_iload r_5_tellSame_55 rfl ?_
            refine pw_iret r_5_tellSame_57 rfl (Nat.le_refl _) ⟨rfl, ?_⟩
            first | exact h1 (by omega) | exact pe (h2 (by omega)) (by rw [show k = 1 by omega, same_1]) | exact pe (h2 (by omega)) (same_n (by omega) (by omega)).symm | exact pe (h2 (by omega)) (same_t (by omega) (by omega) ⟨by assumption, by assumption⟩).symm | exact pe (h2 (by omega)) (same_f (by omega) (by omega) (fun q => absurd q.1 (by assumption))).symm | exact pe (h2 (by omega)) (same_f (by omega) (by omega) (fun q => absurd q.2 (by assumption))).symm
        · skip
          refine pw_const r_5_tellSame_40 ?_
          refine pw_iret r_5_tellSame_41 rfl (Nat.le_refl _) ⟨rfl, ?_⟩
          first | exact h1 (by omega) | exact pe (h2 (by omega)) (by rw [show k = 1 by omega, same_1]) | exact pe (h2 (by omega)) (same_n (by omega) (by omega)).symm | exact pe (h2 (by omega)) (same_t (by omega) (by omega) ⟨by assumption, by assumption⟩).symm | exact pe (h2 (by omega)) (same_f (by omega) (by omega) (fun q => absurd q.1 (by assumption))).symm | exact pe (h2 (by omega)) (same_f (by omega) (by omega) (fun q => absurd q.2 (by assumption))).symm
set_option maxRecDepth 10000 in
theorem sp_X5_isSure {l : Launch} {w : Wo} {d : Nat} {G : PH} {P : Option PV → PH → Prop} {a b : Int} (hrw : 0 ≤ (gF G 5 0 0) ∧ (gF G 5 0 0) ≤ 100) (hrc : rowsC G) (ha : 0 ≤ a ∧ a < (gF G 5 0 0)) (hb : 0 ≤ b ∧ b < (gF G 5 0 0)) (hP : P (some (vI (b2i (surC G a b)))) G) : PW l w M_X5_isSure (d + 3) 0 [some (vR 5 (0)), some (vI (a)), some (vI (b))] [] G P := by
  refine pw_aload r_5_isSure_0 rfl ?_
  refine pw_getR r_5_isSure_1 fs_5_1 (by decide) ?_
  refine pw_iload r_5_isSure_4 rfl ?_
  refine pw_iald r_5_isSure_5 sh47 (by omega) (by omega) ?_
  refine pw_aload r_5_isSure_6 rfl ?_
  refine pw_getR r_5_isSure_7 fs_5_1 (by decide) ?_
  refine pw_iload r_5_isSure_10 rfl ?_
  refine pw_iald r_5_isSure_11 sh47 (by omega) (by omega) ?_
  refine pw_icmp_eq r_5_isSure_12 (fun h12 => ?_) (fun h12 => ?_)
  · skip
    refine pw_const r_5_isSure_44 ?_
    refine pw_zret r_5_isSure_45 rfl (Or.inl rfl) (Nat.le_refl _) ⟨rfl, ?_⟩
    exact pe hP (by first | exact (b2i_t ⟨by assumption, by assumption, by assumption, by assumption⟩).symm | exact (b2i_f (fun q => absurd q.1 (by omega))).symm | exact (b2i_f (fun q => absurd q.2.1 (by assumption))).symm | exact (b2i_f (fun q => absurd q.2.2.1 (by assumption))).symm | exact (b2i_f (fun q => absurd q.2.2.2 (by assumption))).symm)
  · skip
    refine pw_aload r_5_isSure_15 rfl ?_
    refine pw_iload r_5_isSure_16 rfl ?_
    refine pw_callV (av := [vI (a)]) (st := []) (ls0 := [some (vR 5 (0)), some (vI (a)), none]) r_5_isSure_17 rfl rfl rfl (Nat.le_refl _) ?_
    refine sp_X5_isWhole (by first | assumption | exact hrw | omega) (by first | assumption | exact hrc | omega) (by first | assumption | exact ha | omega) ?_
    refine pw_if_eqB r_5_isSure_20 (fun h20 => ?_) (fun h20 => ?_)
    · skip
      refine pw_const r_5_isSure_44 ?_
      refine pw_zret r_5_isSure_45 rfl (Or.inl rfl) (Nat.le_refl _) ⟨rfl, ?_⟩
      exact pe hP (by first | exact (b2i_t ⟨by assumption, by assumption, by assumption, by assumption⟩).symm | exact (b2i_f (fun q => absurd q.1 (by omega))).symm | exact (b2i_f (fun q => absurd q.2.1 (by assumption))).symm | exact (b2i_f (fun q => absurd q.2.2.1 (by assumption))).symm | exact (b2i_f (fun q => absurd q.2.2.2 (by assumption))).symm)
    · skip
      refine pw_aload r_5_isSure_23 rfl ?_
      refine pw_iload r_5_isSure_24 rfl ?_
      refine pw_callV (av := [vI (b)]) (st := []) (ls0 := [some (vR 5 (0)), some (vI (b)), none]) r_5_isSure_25 rfl rfl rfl (Nat.le_refl _) ?_
      refine sp_X5_isWhole (by first | assumption | exact hrw | omega) (by first | assumption | exact hrc | omega) (by first | assumption | exact ha | omega) ?_
      refine pw_if_eqB r_5_isSure_28 (fun h28 => ?_) (fun h28 => ?_)
      · skip
        refine pw_const r_5_isSure_44 ?_
        refine pw_zret r_5_isSure_45 rfl (Or.inl rfl) (Nat.le_refl _) ⟨rfl, ?_⟩
        exact pe hP (by first | exact (b2i_t ⟨by assumption, by assumption, by assumption, by assumption⟩).symm | exact (b2i_f (fun q => absurd q.1 (by omega))).symm | exact (b2i_f (fun q => absurd q.2.1 (by assumption))).symm | exact (b2i_f (fun q => absurd q.2.2.1 (by assumption))).symm | exact (b2i_f (fun q => absurd q.2.2.2 (by assumption))).symm)
      · skip
        refine pw_aload r_5_isSure_31 rfl ?_
        refine pw_iload r_5_isSure_32 rfl ?_
        refine pw_iload r_5_isSure_33 rfl ?_
        refine pw_callV (av := [vI (a), vI (b)]) (st := []) (ls0 := [some (vR 5 (0)), some (vI (a)), some (vI (b)), none, none, none, none, none]) r_5_isSure_34 rfl rfl rfl (Nat.le_refl _) ?_
        refine sp_X5_whyApart (by first | assumption | exact hrw | omega) (by first | assumption | exact hrc | omega) (by first | assumption | exact ha | omega) (by first | assumption | exact hb | omega) ?_
        refine pw_if_ne r_5_isSure_37 (fun h37 => ?_) (fun h37 => ?_)
        · skip
          refine pw_const r_5_isSure_44 ?_
          refine pw_zret r_5_isSure_45 rfl (Or.inl rfl) (Nat.le_refl _) ⟨rfl, ?_⟩
          exact pe hP (by first | exact (b2i_t ⟨by assumption, by assumption, by assumption, by assumption⟩).symm | exact (b2i_f (fun q => absurd q.1 (by omega))).symm | exact (b2i_f (fun q => absurd q.2.1 (by assumption))).symm | exact (b2i_f (fun q => absurd q.2.2.1 (by assumption))).symm | exact (b2i_f (fun q => absurd q.2.2.2 (by assumption))).symm)
        · skip
          refine pw_const r_5_isSure_40 ?_
          refine pw_goto r_5_isSure_41 ?_
          refine pw_zret r_5_isSure_45 rfl (Or.inr rfl) (Nat.le_refl _) ⟨rfl, ?_⟩
          exact pe hP (by first | exact (b2i_t ⟨by assumption, by assumption, by assumption, by assumption⟩).symm | exact (b2i_f (fun q => absurd q.1 (by omega))).symm | exact (b2i_f (fun q => absurd q.2.1 (by assumption))).symm | exact (b2i_f (fun q => absurd q.2.2.1 (by assumption))).symm | exact (b2i_f (fun q => absurd q.2.2.2 (by assumption))).symm)
set_option maxRecDepth 10000 in
theorem sp_X5_mustBeApart {l : Launch} {w : Wo} {d : Nat} {G : PH} {P : Option PV → PH → Prop} {a b : Int} (hrw : 0 ≤ (gF G 5 0 0) ∧ (gF G 5 0 0) ≤ 100) (hrc : rowsC G) (ha : 0 ≤ a ∧ a < (gF G 5 0 0)) (hb : 0 ≤ b ∧ b < (gF G 5 0 0)) (hP : P (some (vI (b2i (aptC G a b)))) G) : PW l w M_X5_mustBeApart (d + 3) 0 [some (vR 5 (0)), some (vI (a)), some (vI (b))] [] G P := by
  refine pw_aload r_5_mustBeApart_0 rfl ?_
  refine pw_getR r_5_mustBeApart_1 fs_5_1 (by decide) ?_
  refine pw_iload r_5_mustBeApart_4 rfl ?_
  refine pw_iald r_5_mustBeApart_5 sh47 (by omega) (by omega) ?_
  refine pw_aload r_5_mustBeApart_6 rfl ?_
  refine pw_getR r_5_mustBeApart_7 fs_5_1 (by decide) ?_
  refine pw_iload r_5_mustBeApart_10 rfl ?_
  refine pw_iald r_5_mustBeApart_11 sh47 (by omega) (by omega) ?_
  refine pw_icmp_eq r_5_mustBeApart_12 (fun h12 => ?_) (fun h12 => ?_)
  · skip
    refine pw_aload r_5_mustBeApart_30 rfl ?_
    refine pw_iload r_5_mustBeApart_31 rfl ?_
    refine pw_iload r_5_mustBeApart_32 rfl ?_
    refine pw_const r_5_mustBeApart_33 ?_
    refine pw_callV (av := [vI (a), vI (b), vI (2)]) (st := []) (ls0 := [some (vR 5 (0)), some (vI (a)), some (vI (b)), some (vI (2))]) r_5_mustBeApart_34 rfl rfl rfl (Nat.le_refl _) ?_
    refine sp_X5_agesDiffer (by first | assumption | exact hrw | omega) (by first | assumption | exact hrc | omega) (by first | assumption | exact ha | omega) (by first | assumption | exact hb | omega) ?_
    refine pw_if_neB r_5_mustBeApart_37 (fun h37 => ?_) (fun h37 => ?_)
    · skip
      refine pw_const r_5_mustBeApart_49 ?_
      refine pw_goto r_5_mustBeApart_50 ?_
      refine pw_zret r_5_mustBeApart_54 rfl (Or.inr rfl) (Nat.le_refl _) ⟨rfl, ?_⟩
      exact pe hP (by first | exact (b2i_t (Or.inl ⟨by assumption, by assumption⟩)).symm | exact (b2i_f (fun q => by rcases q with q | q; exact absurd (by assumption) q.2; exact absurd q.1 (by assumption))).symm | exact (b2i_t (Or.inr ⟨by assumption, Or.inl (by assumption)⟩)).symm | exact (b2i_t (Or.inr ⟨by assumption, Or.inr (by assumption)⟩)).symm | exact (b2i_f (fun q => by rcases q with q | q; exact absurd (by assumption) q.1; rcases q.2 with q | q; exact absurd q (by assumption); exact absurd q (by assumption))).symm)
    · skip
      refine pw_aload r_5_mustBeApart_40 rfl ?_
      refine pw_iload r_5_mustBeApart_41 rfl ?_
      refine pw_iload r_5_mustBeApart_42 rfl ?_
      refine pw_callV (av := [vI (a), vI (b)]) (st := []) (ls0 := [some (vR 5 (0)), some (vI (a)), some (vI (b))]) r_5_mustBeApart_43 rfl rfl rfl (Nat.le_refl _) ?_
      refine sp_X5_unitsDiffer (by first | assumption | exact hrw | omega) (by first | assumption | exact ha | omega) (by first | assumption | exact hb | omega) ?_
      refine pw_if_eqB r_5_mustBeApart_46 (fun h46 => ?_) (fun h46 => ?_)
      · skip
        refine pw_const r_5_mustBeApart_53 ?_
        refine pw_zret r_5_mustBeApart_54 rfl (Or.inl rfl) (Nat.le_refl _) ⟨rfl, ?_⟩
        exact pe hP (by first | exact (b2i_t (Or.inl ⟨by assumption, by assumption⟩)).symm | exact (b2i_f (fun q => by rcases q with q | q; exact absurd (by assumption) q.2; exact absurd q.1 (by assumption))).symm | exact (b2i_t (Or.inr ⟨by assumption, Or.inl (by assumption)⟩)).symm | exact (b2i_t (Or.inr ⟨by assumption, Or.inr (by assumption)⟩)).symm | exact (b2i_f (fun q => by rcases q with q | q; exact absurd (by assumption) q.1; rcases q.2 with q | q; exact absurd q (by assumption); exact absurd q (by assumption))).symm)
      · skip
        refine pw_const r_5_mustBeApart_49 ?_
        refine pw_goto r_5_mustBeApart_50 ?_
        refine pw_zret r_5_mustBeApart_54 rfl (Or.inr rfl) (Nat.le_refl _) ⟨rfl, ?_⟩
        exact pe hP (by first | exact (b2i_t (Or.inl ⟨by assumption, by assumption⟩)).symm | exact (b2i_f (fun q => by rcases q with q | q; exact absurd (by assumption) q.2; exact absurd q.1 (by assumption))).symm | exact (b2i_t (Or.inr ⟨by assumption, Or.inl (by assumption)⟩)).symm | exact (b2i_t (Or.inr ⟨by assumption, Or.inr (by assumption)⟩)).symm | exact (b2i_f (fun q => by rcases q with q | q; exact absurd (by assumption) q.1; rcases q.2 with q | q; exact absurd q (by assumption); exact absurd q (by assumption))).symm)
  · skip
    refine pw_aload r_5_mustBeApart_15 rfl ?_
    refine pw_iload r_5_mustBeApart_16 rfl ?_
    refine pw_iload r_5_mustBeApart_17 rfl ?_
    refine pw_callV (av := [vI (a), vI (b)]) (st := []) (ls0 := [some (vR 5 (0)), some (vI (a)), some (vI (b)), none, none, none, none, none]) r_5_mustBeApart_18 rfl rfl rfl (Nat.le_refl _) ?_
    refine sp_X5_whyApart (by first | assumption | exact hrw | omega) (by first | assumption | exact hrc | omega) (by first | assumption | exact ha | omega) (by first | assumption | exact hb | omega) ?_
    refine pw_if_eq r_5_mustBeApart_21 (fun h21 => ?_) (fun h21 => ?_)
    · skip
      refine pw_const r_5_mustBeApart_28 ?_
      refine pw_zret r_5_mustBeApart_29 rfl (Or.inl rfl) (Nat.le_refl _) ⟨rfl, ?_⟩
      exact pe hP (by first | exact (b2i_t (Or.inl ⟨by assumption, by assumption⟩)).symm | exact (b2i_f (fun q => by rcases q with q | q; exact absurd (by assumption) q.2; exact absurd q.1 (by assumption))).symm | exact (b2i_t (Or.inr ⟨by assumption, Or.inl (by assumption)⟩)).symm | exact (b2i_t (Or.inr ⟨by assumption, Or.inr (by assumption)⟩)).symm | exact (b2i_f (fun q => by rcases q with q | q; exact absurd (by assumption) q.1; rcases q.2 with q | q; exact absurd q (by assumption); exact absurd q (by assumption))).symm)
    · skip
      refine pw_const r_5_mustBeApart_24 ?_
      refine pw_goto r_5_mustBeApart_25 ?_
      refine pw_zret r_5_mustBeApart_29 rfl (Or.inr rfl) (Nat.le_refl _) ⟨rfl, ?_⟩
      exact pe hP (by first | exact (b2i_t (Or.inl ⟨by assumption, by assumption⟩)).symm | exact (b2i_f (fun q => by rcases q with q | q; exact absurd (by assumption) q.2; exact absurd q.1 (by assumption))).symm | exact (b2i_t (Or.inr ⟨by assumption, Or.inl (by assumption)⟩)).symm | exact (b2i_t (Or.inr ⟨by assumption, Or.inr (by assumption)⟩)).symm | exact (b2i_f (fun q => by rcases q with q | q; exact absurd (by assumption) q.1; rcases q.2 with q | q; exact absurd q (by assumption); exact absurd q (by assumption))).symm)
set_option maxRecDepth 10000 in
theorem sp_X12_why {l : Launch} {w : Wo} {d : Nat} {G : PH} {P : Option PV → PH → Prop} {a b : Int} {ln : Int → Int} (hrw : 0 ≤ (gF G 12 0 55) ∧ (gF G 12 0 55) ≤ 100) (hrm : rowsM G ln) (ha : 0 ≤ a ∧ a < (gF G 12 0 55)) (hb : 0 ≤ b ∧ b < (gF G 12 0 55)) (h1 : ¬ lenM G ln a b → P (some (vI 1)) G) (h2 : lenM G ln a b → P (some (vI (whyM G ln a b))) (sF G 12 0 58 (b2i (redM G ln a b)))) : PW l w M_X12_why (d + 1) 0 [some (vR 12 (0)), some (vI (a)), some (vI (b)), none, none, none, none, none] [] G P := by
  have L29 : ∀ (z o : Int), (hz : z = zeM G a b) → (ho : o = onM G a b) → PW l w M_X12_why (d + 1) 29 [some (vR 12 (0)), some (vI (a)), some (vI (b)), some (vI (z)), none, none, none, none] [vI (o)] G P := by
    intro z o hz ho
    have hzz : 0 ≤ z ∧ z < (gF G 12 0 55) := by rw [hz]; unfold zeM; split <;> omega
    have hoo : 0 ≤ o ∧ o < (gF G 12 0 55) := by rw [ho]; unfold onM; split <;> omega
    have hcz := hrm z hzz.1 hzz.2
    have hco := hrm o hoo.1 hoo.2
    refine pw_istore (ls' := [some (vR 12 (0)), some (vI (a)), some (vI (b)), some (vI (z)), some (vI (o)), none, none, none]) r_12_why_29 rfl rfl ?_
    refine pw_aload r_12_why_31 rfl ?_
    refine pw_getR r_12_why_32 fs_12_52 (by decide) ?_
    refine pw_iload r_12_why_35 rfl ?_
    refine pw_iald r_12_why_36 sh237 (by omega) (by omega) ?_
    refine pw_callS (av := [vI (gA G 237 (0) (z))]) (st := []) (ls0 := [some (vI (gA G 237 (0) (z))), none, none]) r_12_why_37 rfl rfl rfl (Nat.le_refl _) ?_
    refine sp_X12_lengthOf (n := ln z) (⟨hcz.1.1, hcz.1.2.1⟩) (hcz.1.2.2) ?_
    refine pw_aload r_12_why_40 rfl ?_
    refine pw_getR r_12_why_41 fs_12_52 (by decide) ?_
    refine pw_iload r_12_why_44 rfl ?_
    refine pw_iald r_12_why_46 sh237 (by omega) (by omega) ?_
    refine pw_callS (av := [vI (gA G 237 (0) (o))]) (st := [vI (ln z)]) (ls0 := [some (vI (gA G 237 (0) (o))), none, none]) r_12_why_47 rfl rfl rfl (Nat.le_refl _) ?_
    refine sp_X12_lengthOf (n := ln o) (⟨hco.1.1, hco.1.2.1⟩) (hco.1.2.2) ?_
    refine pw_icmp_eq r_12_why_50 (fun h50 => ?_) (fun h50 => ?_)
    · skip
      have hln : lenM G ln a b := by unfold lenM; rw [← hz, ← ho]; exact h50
      have hlz : ln z = ln o := h50
      refine pw_aload r_12_why_55 rfl ?_
      refine pw_const r_12_why_56 ?_
      refine pw_putZ r_12_why_57 (by decide +kernel) (by omega) fs_12_58 (by decide) ?_
      refine pw_rngG (fun _ hgA => ?_)
      have hxy0 : (0 ≤ (gA G 237 0 (z)) ∧ (gA G 237 0 (z)) < 2147483648) ∧ 0 ≤ (gA G 237 0 (o)) ∧ (gA G 237 0 (o)) < 2147483648 := ⟨⟨Int.le_of_lt hcz.1.2.2.1, (hgA _ _ _).2⟩, Int.le_of_lt hco.1.2.2.1, (hgA _ _ _).2⟩
      refine pw_aload r_12_why_60 rfl ?_
      refine pw_getR r_12_why_61 fs_12_52 (by decide) ?_
      refine pw_iload r_12_why_64 rfl ?_
      refine pw_ialdv (v := gA G 237 (0) (z)) r_12_why_65 sh237 (by omega) (by omega) (by first | rfl | simp [gF_sF, gF_sA, gF_uA, gF_sD, gA_sF, gA_sA, gA_uA, gA_sD, gD_sF, gD_sA, gD_uA, gD_sD]) ?_
      refine pw_istore (ls' := [some (vR 12 (0)), some (vI (a)), some (vI (b)), some (vI (z)), some (vI (o)), some (vI (gA G 237 (0) (z))), none, none]) r_12_why_66 rfl rfl ?_
      refine pw_aload r_12_why_68 rfl ?_
      refine pw_getR r_12_why_69 fs_12_52 (by decide) ?_
      refine pw_iload r_12_why_72 rfl ?_
      refine pw_ialdv (v := gA G 237 (0) (o)) r_12_why_74 sh237 (by omega) (by omega) (by first | rfl | simp [gF_sF, gF_sA, gF_uA, gF_sD, gA_sF, gA_sA, gA_uA, gA_sD, gD_sF, gD_sA, gD_uA, gD_sD]) ?_
      refine pw_istore (ls' := [some (vR 12 (0)), some (vI (a)), some (vI (b)), some (vI (z)), some (vI (o)), some (vI (gA G 237 (0) (z))), some (vI (gA G 237 (0) (o))), none]) r_12_why_75 rfl rfl ?_
      refine pw_const r_12_why_77 ?_
      refine pw_istore (ls' := [some (vR 12 (0)), some (vI (a)), some (vI (b)), some (vI (z)), some (vI (o)), some (vI (gA G 237 (0) (z))), some (vI (gA G 237 (0) (o))), some (vI (1))]) r_12_why_78 rfl rfl ?_
      have L80 : ∀ (nF : Nat) (i x y f r : Int), (hi : 0 ≤ i ∧ i ≤ ln z) → (hx : x = lft (gA G 237 0 (z)) i) → (hy : y = lft (gA G 237 0 (o)) i) → (hxy : (0 ≤ x ∧ x < 2147483648) ∧ 0 ≤ y ∧ y < 2147483648) → (hf : f = b2i (∀ j, 0 ≤ j → j < i → fit1M G z o j)) → (hr : r = b2i (∀ j, 0 ≤ j → j < i → red1M G z o j)) → (ln z - i).toNat < nF → PW l w M_X12_why (d + 1) 80 [some (vR 12 (0)), some (vI (a)), some (vI (b)), some (vI (z)), some (vI (o)), some (vI (x)), some (vI (y)), some (vI (f))] [] (sF G 12 (0) 58 (r)) P := by
        intro nF
        induction nF with
        | zero => intro _ _ _ _ _ _ _ _ _ _ _ hM; exact absurd hM (Nat.not_lt_zero _)
        | succ nF ih80 =>
          intro i x y f r hi hx hy hxy hf hr hM80
          have hlt : 0 < x → i < ln z := fun hp => by
            rcases Int.lt_or_le i (ln z) with q | q
            · exact q
            · have := sh_zero hcz.1.1 hcz.1.2.2.2.2 q; omega
          have hst : ∀ {p : Int → Prop}, ((∀ j, 0 ≤ j → j < i + 1 → p j) ↔ (∀ j, 0 ≤ j → j < i → p j) ∧ p i) := all_s_iff hi.1
          refine pw_iload r_12_why_80 rfl ?_
          refine pw_if_le r_12_why_82 (fun h82 => ?_) (fun h82 => ?_)
          · skip
            have hie : i = ln z := by
              have hq := (WordN_dig hcz.1.2.2 hi.1 (by rw [← hx, show x = 0 by omega]; decide)).1
              omega
            subst hie
            have hrd : (∀ j, 0 ≤ j → j < ln z → red1M G z o j) ↔ redM G ln a b := by unfold redM; rw [← hz, ← ho]
            have hfe : (∀ j, 0 ≤ j → j < ln z → fit1M G z o j) ↔ fitM G ln a b := by unfold fitM; rw [← hz, ← ho]
            rw [b2i_congr hrd] at hr
            rw [b2i_congr hfe] at hf
            replace h2 := h2 hln
            rw [← hr] at h2
            unfold whyM at h2
            rw [← hz, ← ho] at h2
            refine pw_iload r_12_why_164 rfl ?_
            refine pw_if_ne r_12_why_166 (fun h166 => ?_) (fun h166 => ?_)
            · skip
              have hq := b2i_eq1.mp (by rcases b2i_01 (fitM G ln a b) with q | q; exact absurd (hf.trans q) (by omega); exact q)
              refine pw_aload r_12_why_171 rfl ?_
              refine pw_getR r_12_why_172 fs_12_53 (by decide) ?_
              refine pw_iload r_12_why_175 rfl ?_
              refine pw_ialdv (v := gA G 238 (0) (z)) r_12_why_176 sh238 (by omega) (by omega) (by first | rfl | simp [gF_sF, gF_sA, gF_uA, gF_sD, gA_sF, gA_sA, gA_uA, gA_sD, gD_sF, gD_sA, gD_uA, gD_sD]) ?_
              refine pw_if_lt r_12_why_177 (fun h177 => ?_) (fun h177 => ?_)
              · skip
                refine pw_aload r_12_why_214 rfl ?_
                refine pw_getR r_12_why_215 fs_12_54 (by decide) ?_
                refine pw_iload r_12_why_218 rfl ?_
                refine pw_ialdv (v := gA G 239 (0) (z)) r_12_why_219 sh239 (by omega) (by omega) (by first | rfl | simp [gF_sF, gF_sA, gF_uA, gF_sD, gA_sF, gA_sA, gA_uA, gA_sD, gD_sF, gD_sA, gD_uA, gD_sD]) ?_
                refine pw_if_lt r_12_why_220 (fun h220 => ?_) (fun h220 => ?_)
                · skip
                  refine pw_const r_12_why_253 ?_
                  refine pw_iret r_12_why_254 rfl (Nat.le_refl _) ⟨rfl, ?_⟩
                  first | exact pe h2 (why_4 hln hq (show ¬ ageM G z o 1 by unfold ageM; omega) (by unfold untM; omega)).symm | exact pe h2 (why_0 hln hq (show ¬ ageM G z o 1 by unfold ageM; omega) (by unfold untM; omega)).symm
                · skip
                  refine pw_aload r_12_why_223 rfl ?_
                  refine pw_getR r_12_why_224 fs_12_54 (by decide) ?_
                  refine pw_iload r_12_why_227 rfl ?_
                  refine pw_ialdv (v := gA G 239 (0) (o)) r_12_why_229 sh239 (by omega) (by omega) (by first | rfl | simp [gF_sF, gF_sA, gF_uA, gF_sD, gA_sF, gA_sA, gA_uA, gA_sD, gD_sF, gD_sA, gD_uA, gD_sD]) ?_
                  refine pw_if_lt r_12_why_230 (fun h230 => ?_) (fun h230 => ?_)
                  · skip
                    refine pw_const r_12_why_253 ?_
                    refine pw_iret r_12_why_254 rfl (Nat.le_refl _) ⟨rfl, ?_⟩
                    first | exact pe h2 (why_4 hln hq (show ¬ ageM G z o 1 by unfold ageM; omega) (by unfold untM; omega)).symm | exact pe h2 (why_0 hln hq (show ¬ ageM G z o 1 by unfold ageM; omega) (by unfold untM; omega)).symm
                  · skip
                    refine pw_aload r_12_why_233 rfl ?_
                    refine pw_getR r_12_why_234 fs_12_54 (by decide) ?_
                    refine pw_iload r_12_why_237 rfl ?_
                    refine pw_ialdv (v := gA G 239 (0) (z)) r_12_why_238 sh239 (by omega) (by omega) (by first | rfl | simp [gF_sF, gF_sA, gF_uA, gF_sD, gA_sF, gA_sA, gA_uA, gA_sD, gD_sF, gD_sA, gD_uA, gD_sD]) ?_
                    refine pw_aload r_12_why_239 rfl ?_
                    refine pw_getR r_12_why_240 fs_12_54 (by decide) ?_
                    refine pw_iload r_12_why_243 rfl ?_
                    refine pw_ialdv (v := gA G 239 (0) (o)) r_12_why_245 sh239 (by omega) (by omega) (by first | rfl | simp [gF_sF, gF_sA, gF_uA, gF_sD, gA_sF, gA_sA, gA_uA, gA_sD, gD_sF, gD_sA, gD_uA, gD_sD]) ?_
                    refine pw_icmp_eq r_12_why_246 (fun h246 => ?_) (fun h246 => ?_)
                    · skip
                      refine pw_const r_12_why_253 ?_
                      refine pw_iret r_12_why_254 rfl (Nat.le_refl _) ⟨rfl, ?_⟩
                      first | exact pe h2 (why_4 hln hq (show ¬ ageM G z o 1 by unfold ageM; omega) (by unfold untM; omega)).symm | exact pe h2 (why_0 hln hq (show ¬ ageM G z o 1 by unfold ageM; omega) (by unfold untM; omega)).symm
                    · skip
                      refine pw_const r_12_why_249 ?_
                      refine pw_goto r_12_why_250 ?_
                      refine pw_iret r_12_why_254 rfl (Nat.le_refl _) ⟨rfl, ?_⟩
                      first | exact pe h2 (why_4 hln hq (show ¬ ageM G z o 1 by unfold ageM; omega) (by unfold untM; omega)).symm | exact pe h2 (why_0 hln hq (show ¬ ageM G z o 1 by unfold ageM; omega) (by unfold untM; omega)).symm
              · skip
                refine pw_aload r_12_why_180 rfl ?_
                refine pw_getR r_12_why_181 fs_12_53 (by decide) ?_
                refine pw_iload r_12_why_184 rfl ?_
                refine pw_ialdv (v := gA G 238 (0) (o)) r_12_why_186 sh238 (by omega) (by omega) (by first | rfl | simp [gF_sF, gF_sA, gF_uA, gF_sD, gA_sF, gA_sA, gA_uA, gA_sD, gD_sF, gD_sA, gD_uA, gD_sD]) ?_
                refine pw_if_lt r_12_why_187 (fun h187 => ?_) (fun h187 => ?_)
                · skip
                  refine pw_aload r_12_why_214 rfl ?_
                  refine pw_getR r_12_why_215 fs_12_54 (by decide) ?_
                  refine pw_iload r_12_why_218 rfl ?_
                  refine pw_ialdv (v := gA G 239 (0) (z)) r_12_why_219 sh239 (by omega) (by omega) (by first | rfl | simp [gF_sF, gF_sA, gF_uA, gF_sD, gA_sF, gA_sA, gA_uA, gA_sD, gD_sF, gD_sA, gD_uA, gD_sD]) ?_
                  refine pw_if_lt r_12_why_220 (fun h220 => ?_) (fun h220 => ?_)
                  · skip
                    refine pw_const r_12_why_253 ?_
                    refine pw_iret r_12_why_254 rfl (Nat.le_refl _) ⟨rfl, ?_⟩
                    first | exact pe h2 (why_4 hln hq (show ¬ ageM G z o 1 by unfold ageM; omega) (by unfold untM; omega)).symm | exact pe h2 (why_0 hln hq (show ¬ ageM G z o 1 by unfold ageM; omega) (by unfold untM; omega)).symm
                  · skip
                    refine pw_aload r_12_why_223 rfl ?_
                    refine pw_getR r_12_why_224 fs_12_54 (by decide) ?_
                    refine pw_iload r_12_why_227 rfl ?_
                    refine pw_ialdv (v := gA G 239 (0) (o)) r_12_why_229 sh239 (by omega) (by omega) (by first | rfl | simp [gF_sF, gF_sA, gF_uA, gF_sD, gA_sF, gA_sA, gA_uA, gA_sD, gD_sF, gD_sA, gD_uA, gD_sD]) ?_
                    refine pw_if_lt r_12_why_230 (fun h230 => ?_) (fun h230 => ?_)
                    · skip
                      refine pw_const r_12_why_253 ?_
                      refine pw_iret r_12_why_254 rfl (Nat.le_refl _) ⟨rfl, ?_⟩
                      first | exact pe h2 (why_4 hln hq (show ¬ ageM G z o 1 by unfold ageM; omega) (by unfold untM; omega)).symm | exact pe h2 (why_0 hln hq (show ¬ ageM G z o 1 by unfold ageM; omega) (by unfold untM; omega)).symm
                    · skip
                      refine pw_aload r_12_why_233 rfl ?_
                      refine pw_getR r_12_why_234 fs_12_54 (by decide) ?_
                      refine pw_iload r_12_why_237 rfl ?_
                      refine pw_ialdv (v := gA G 239 (0) (z)) r_12_why_238 sh239 (by omega) (by omega) (by first | rfl | simp [gF_sF, gF_sA, gF_uA, gF_sD, gA_sF, gA_sA, gA_uA, gA_sD, gD_sF, gD_sA, gD_uA, gD_sD]) ?_
                      refine pw_aload r_12_why_239 rfl ?_
                      refine pw_getR r_12_why_240 fs_12_54 (by decide) ?_
                      refine pw_iload r_12_why_243 rfl ?_
                      refine pw_ialdv (v := gA G 239 (0) (o)) r_12_why_245 sh239 (by omega) (by omega) (by first | rfl | simp [gF_sF, gF_sA, gF_uA, gF_sD, gA_sF, gA_sA, gA_uA, gA_sD, gD_sF, gD_sA, gD_uA, gD_sD]) ?_
                      refine pw_icmp_eq r_12_why_246 (fun h246 => ?_) (fun h246 => ?_)
                      · skip
                        refine pw_const r_12_why_253 ?_
                        refine pw_iret r_12_why_254 rfl (Nat.le_refl _) ⟨rfl, ?_⟩
                        first | exact pe h2 (why_4 hln hq (show ¬ ageM G z o 1 by unfold ageM; omega) (by unfold untM; omega)).symm | exact pe h2 (why_0 hln hq (show ¬ ageM G z o 1 by unfold ageM; omega) (by unfold untM; omega)).symm
                      · skip
                        refine pw_const r_12_why_249 ?_
                        refine pw_goto r_12_why_250 ?_
                        refine pw_iret r_12_why_254 rfl (Nat.le_refl _) ⟨rfl, ?_⟩
                        first | exact pe h2 (why_4 hln hq (show ¬ ageM G z o 1 by unfold ageM; omega) (by unfold untM; omega)).symm | exact pe h2 (why_0 hln hq (show ¬ ageM G z o 1 by unfold ageM; omega) (by unfold untM; omega)).symm
                · skip
                  refine pw_aload r_12_why_190 rfl ?_
                  refine pw_getR r_12_why_191 fs_12_53 (by decide) ?_
                  refine pw_iload r_12_why_194 rfl ?_
                  refine pw_ialdv (v := gA G 238 (0) (z)) r_12_why_195 sh238 (by omega) (by omega) (by first | rfl | simp [gF_sF, gF_sA, gF_uA, gF_sD, gA_sF, gA_sA, gA_uA, gA_sD, gD_sF, gD_sA, gD_uA, gD_sD]) ?_
                  refine pw_aload r_12_why_196 rfl ?_
                  refine pw_getR r_12_why_197 fs_12_53 (by decide) ?_
                  refine pw_iload r_12_why_200 rfl ?_
                  refine pw_ialdv (v := gA G 238 (0) (o)) r_12_why_202 sh238 (by omega) (by omega) (by first | rfl | simp [gF_sF, gF_sA, gF_uA, gF_sD, gA_sF, gA_sA, gA_uA, gA_sD, gD_sF, gD_sA, gD_uA, gD_sD]) ?_
                  refine pw_isub r_12_why_203 (by omega) ?_
                  refine pw_const r_12_why_204 ?_
                  refine pw_const r_12_why_205 ?_
                  refine pw_callS (av := [vI (((gA G 238 (0) (z)) - (gA G 238 (0) (o)))), vI ((-1)), vI (1)]) (st := []) (ls0 := [some (vI (((gA G 238 (0) (z)) - (gA G 238 (0) (o))))), some (vI ((-1))), some (vI (1))]) r_12_why_206 rfl rfl rfl (Nat.le_refl _) ?_
                  refine sp_X12_within  ?_
                  refine pw_if_neB r_12_why_209 (fun h209 => ?_) (fun h209 => ?_)
                  · skip
                    refine pw_aload r_12_why_214 rfl ?_
                    refine pw_getR r_12_why_215 fs_12_54 (by decide) ?_
                    refine pw_iload r_12_why_218 rfl ?_
                    refine pw_ialdv (v := gA G 239 (0) (z)) r_12_why_219 sh239 (by omega) (by omega) (by first | rfl | simp [gF_sF, gF_sA, gF_uA, gF_sD, gA_sF, gA_sA, gA_uA, gA_sD, gD_sF, gD_sA, gD_uA, gD_sD]) ?_
                    refine pw_if_lt r_12_why_220 (fun h220 => ?_) (fun h220 => ?_)
                    · skip
                      refine pw_const r_12_why_253 ?_
                      refine pw_iret r_12_why_254 rfl (Nat.le_refl _) ⟨rfl, ?_⟩
                      first | exact pe h2 (why_4 hln hq (show ¬ ageM G z o 1 by unfold ageM; omega) (by unfold untM; omega)).symm | exact pe h2 (why_0 hln hq (show ¬ ageM G z o 1 by unfold ageM; omega) (by unfold untM; omega)).symm
                    · skip
                      refine pw_aload r_12_why_223 rfl ?_
                      refine pw_getR r_12_why_224 fs_12_54 (by decide) ?_
                      refine pw_iload r_12_why_227 rfl ?_
                      refine pw_ialdv (v := gA G 239 (0) (o)) r_12_why_229 sh239 (by omega) (by omega) (by first | rfl | simp [gF_sF, gF_sA, gF_uA, gF_sD, gA_sF, gA_sA, gA_uA, gA_sD, gD_sF, gD_sA, gD_uA, gD_sD]) ?_
                      refine pw_if_lt r_12_why_230 (fun h230 => ?_) (fun h230 => ?_)
                      · skip
                        refine pw_const r_12_why_253 ?_
                        refine pw_iret r_12_why_254 rfl (Nat.le_refl _) ⟨rfl, ?_⟩
                        first | exact pe h2 (why_4 hln hq (show ¬ ageM G z o 1 by unfold ageM; omega) (by unfold untM; omega)).symm | exact pe h2 (why_0 hln hq (show ¬ ageM G z o 1 by unfold ageM; omega) (by unfold untM; omega)).symm
                      · skip
                        refine pw_aload r_12_why_233 rfl ?_
                        refine pw_getR r_12_why_234 fs_12_54 (by decide) ?_
                        refine pw_iload r_12_why_237 rfl ?_
                        refine pw_ialdv (v := gA G 239 (0) (z)) r_12_why_238 sh239 (by omega) (by omega) (by first | rfl | simp [gF_sF, gF_sA, gF_uA, gF_sD, gA_sF, gA_sA, gA_uA, gA_sD, gD_sF, gD_sA, gD_uA, gD_sD]) ?_
                        refine pw_aload r_12_why_239 rfl ?_
                        refine pw_getR r_12_why_240 fs_12_54 (by decide) ?_
                        refine pw_iload r_12_why_243 rfl ?_
                        refine pw_ialdv (v := gA G 239 (0) (o)) r_12_why_245 sh239 (by omega) (by omega) (by first | rfl | simp [gF_sF, gF_sA, gF_uA, gF_sD, gA_sF, gA_sA, gA_uA, gA_sD, gD_sF, gD_sA, gD_uA, gD_sD]) ?_
                        refine pw_icmp_eq r_12_why_246 (fun h246 => ?_) (fun h246 => ?_)
                        · skip
                          refine pw_const r_12_why_253 ?_
                          refine pw_iret r_12_why_254 rfl (Nat.le_refl _) ⟨rfl, ?_⟩
                          first | exact pe h2 (why_4 hln hq (show ¬ ageM G z o 1 by unfold ageM; omega) (by unfold untM; omega)).symm | exact pe h2 (why_0 hln hq (show ¬ ageM G z o 1 by unfold ageM; omega) (by unfold untM; omega)).symm
                        · skip
                          refine pw_const r_12_why_249 ?_
                          refine pw_goto r_12_why_250 ?_
                          refine pw_iret r_12_why_254 rfl (Nat.le_refl _) ⟨rfl, ?_⟩
                          first | exact pe h2 (why_4 hln hq (show ¬ ageM G z o 1 by unfold ageM; omega) (by unfold untM; omega)).symm | exact pe h2 (why_0 hln hq (show ¬ ageM G z o 1 by unfold ageM; omega) (by unfold untM; omega)).symm
                  · skip
                    refine pw_const r_12_why_212 ?_
                    refine pw_iret r_12_why_213 rfl (Nat.le_refl _) ⟨rfl, ?_⟩
                    exact pe h2 (why_3 hln hq (show ageM G z o 1 by unfold ageM; omega)).symm
            · skip
              have hq := b2i_eq0.mp (hf.symm.trans (show f = 0 by omega))
              refine pw_const r_12_why_169 ?_
              refine pw_iret r_12_why_170 rfl (Nat.le_refl _) ⟨rfl, ?_⟩
              exact pe h2 (why_2 hln hq).symm
          · skip
            refine pw_iload r_12_why_85 rfl ?_
            refine pw_const r_12_why_87 ?_
            refine pw_iremN r_12_why_89 (by omega) (by omega) ?_
            refine pw_const r_12_why_90 ?_
            refine pw_icmp_eq r_12_why_92 (fun h92 => ?_) (fun h92 => ?_)
            · skip
              have hnr : ¬ red1M G z o i := by unfold red1M; rw [← hx, ← hy]; omega
              have hfi : fit1M G z o i := by unfold fit1M; rw [← hx, ← hy]; omega
              refine pw_aload r_12_why_105 rfl ?_
              refine pw_const r_12_why_106 ?_
              refine pw_putZ r_12_why_107 (by decide +kernel) (by omega) fs_12_58 (by decide) ?_
              refine pw_goto r_12_why_110 ?_
              refine pw_iload r_12_why_147 rfl ?_
              refine pw_const r_12_why_149 ?_
              refine pw_idivN r_12_why_151 (by omega) (by omega) (by omega) ?_
              refine pw_istore (ls' := [some (vR 12 (0)), some (vI (a)), some (vI (b)), some (vI (z)), some (vI (o)), some (vI ((x / 28))), some (vI (y)), some (vI (f))]) r_12_why_152 rfl rfl ?_
              refine pw_iload r_12_why_154 rfl ?_
              refine pw_const r_12_why_156 ?_
              refine pw_idivN r_12_why_158 (by omega) (by omega) (by omega) ?_
              refine pw_istore (ls' := [some (vR 12 (0)), some (vI (a)), some (vI (b)), some (vI (z)), some (vI (o)), some (vI ((x / 28))), some (vI ((y / 28))), some (vI (f))]) r_12_why_159 rfl rfl ?_
              refine pw_goto r_12_why_161 ?_
              refine pw_eqG (G' := sF G 12 (0) 58 (0)) (by first | rfl | (rw [uA_self]; done) | (rw [sA_uA]; done) | (rw [sA_eq]; done) | (simp (disch := decide) only [sA_uA, sA_uA_ne, uA_abs, uA_abs2, uA_uA]; done) | (simp (disch := decide) only [sA_eq, sA_uA, sA_uA_ne, uA_abs, uA_abs2, uA_uA]; done) | (refine PH_ext (fun _ _ _ => ?_) (fun _ _ _ => ?_) (fun _ _ _ => ?_) <;> simp only [gF_sF, gF_sA, gF_uA, gF_sD, gA_sF, gA_sA, gA_uA, gA_sD, gD_sF, gD_sA, gD_uA, gD_sD] <;> (repeat' split) <;> first | rfl | (exfalso; omega) | simp_all)) ?_
              exact ih80 (i + 1) ((x / 28)) ((y / 28)) (f) (0) (by omega) (by rw [sh_s _ hi.1, ← hx]) (by rw [sh_s _ hi.1, ← hy]) (by omega) (by first | exact hf.trans (b2i_congr ⟨fun q => hst.mpr ⟨q, hfi⟩, fun q => (hst.mp q).1⟩) | exact (b2i_t (hst.mpr ⟨hft, hfi⟩)).symm | exact (b2i_f (fun q => hff (hst.mp q).1)).symm | exact (b2i_f (fun q => hnfi (hst.mp q).2)).symm) (by first | exact (b2i_f (fun q => hnr (hst.mp q).2)).symm | exact hr.trans (b2i_congr ⟨fun q => hst.mpr ⟨q, hri⟩, fun q => (hst.mp q).1⟩)) (by omega)
            · skip
              refine pw_iload r_12_why_95 rfl ?_
              refine pw_const r_12_why_97 ?_
              refine pw_iremN r_12_why_99 (by omega) (by omega) ?_
              refine pw_const r_12_why_100 ?_
              refine pw_icmp_ne r_12_why_102 (fun h102 => ?_) (fun h102 => ?_)
              · skip
                have hri : red1M G z o i := by unfold red1M; rw [← hx, ← hy]; omega
                refine pw_iload r_12_why_113 rfl ?_
                refine pw_if_eq r_12_why_115 (fun h115 => ?_) (fun h115 => ?_)
                · skip
                  have hff := b2i_eq0.mp (hf.symm.trans h115)
                  refine pw_const r_12_why_144 ?_
                  refine pw_istore (ls' := [some (vR 12 (0)), some (vI (a)), some (vI (b)), some (vI (z)), some (vI (o)), some (vI (x)), some (vI (y)), some (vI (0))]) r_12_why_145 rfl rfl ?_
                  refine pw_iload r_12_why_147 rfl ?_
                  refine pw_const r_12_why_149 ?_
                  refine pw_idivN r_12_why_151 (by omega) (by omega) (by omega) ?_
                  refine pw_istore (ls' := [some (vR 12 (0)), some (vI (a)), some (vI (b)), some (vI (z)), some (vI (o)), some (vI ((x / 28))), some (vI (y)), some (vI (0))]) r_12_why_152 rfl rfl ?_
                  refine pw_iload r_12_why_154 rfl ?_
                  refine pw_const r_12_why_156 ?_
                  refine pw_idivN r_12_why_158 (by omega) (by omega) (by omega) ?_
                  refine pw_istore (ls' := [some (vR 12 (0)), some (vI (a)), some (vI (b)), some (vI (z)), some (vI (o)), some (vI ((x / 28))), some (vI ((y / 28))), some (vI (0))]) r_12_why_159 rfl rfl ?_
                  refine pw_goto r_12_why_161 ?_
                  exact ih80 (i + 1) ((x / 28)) ((y / 28)) (0) (r) (by omega) (by rw [sh_s _ hi.1, ← hx]) (by rw [sh_s _ hi.1, ← hy]) (by omega) (by first | exact hf.trans (b2i_congr ⟨fun q => hst.mpr ⟨q, hfi⟩, fun q => (hst.mp q).1⟩) | exact (b2i_t (hst.mpr ⟨hft, hfi⟩)).symm | exact (b2i_f (fun q => hff (hst.mp q).1)).symm | exact (b2i_f (fun q => hnfi (hst.mp q).2)).symm) (by first | exact (b2i_f (fun q => hnr (hst.mp q).2)).symm | exact hr.trans (b2i_congr ⟨fun q => hst.mpr ⟨q, hri⟩, fun q => (hst.mp q).1⟩)) (by omega)
                · skip
                  have hft := b2i_eq1.mp (by rcases b2i_01 (∀ j, 0 ≤ j → j < i → fit1M G z o j) with q | q; exact absurd (hf.trans q) h115; exact q)
                  refine pw_aload r_12_why_118 rfl ?_
                  refine pw_getR r_12_why_119 fs_12_56 (by decide) ?_
                  refine pw_const r_12_why_122 ?_
                  refine pw_iload r_12_why_124 rfl ?_
                  refine pw_const r_12_why_126 ?_
                  refine pw_iremN r_12_why_128 (by omega) (by omega) ?_
                  refine pw_imul r_12_why_129 (by omega) ?_
                  refine pw_iload r_12_why_130 rfl ?_
                  refine pw_const r_12_why_132 ?_
                  refine pw_iremN r_12_why_134 (by omega) (by omega) ?_
                  refine pw_iadd r_12_why_135 (by omega) ?_
                  refine pw_zaldv (v := gA G 240 (0) (((27 * (x % 28)) + (y % 28)))) r_12_why_136 sh240 (by omega) (by omega) (by first | rfl | simp [gF_sF, gF_sA, gF_uA, gF_sD, gA_sF, gA_sA, gA_uA, gA_sD, gD_sF, gD_sA, gD_uA, gD_sD]) ?_
                  refine pw_if_eq r_12_why_137 (fun h137 => ?_) (fun h137 => ?_)
                  · skip
                    have hnfi : ¬ fit1M G z o i := by unfold fit1M; rw [← hx, ← hy]; omega
                    refine pw_const r_12_why_144 ?_
                    refine pw_istore (ls' := [some (vR 12 (0)), some (vI (a)), some (vI (b)), some (vI (z)), some (vI (o)), some (vI (x)), some (vI (y)), some (vI (0))]) r_12_why_145 rfl rfl ?_
                    refine pw_iload r_12_why_147 rfl ?_
                    refine pw_const r_12_why_149 ?_
                    refine pw_idivN r_12_why_151 (by omega) (by omega) (by omega) ?_
                    refine pw_istore (ls' := [some (vR 12 (0)), some (vI (a)), some (vI (b)), some (vI (z)), some (vI (o)), some (vI ((x / 28))), some (vI (y)), some (vI (0))]) r_12_why_152 rfl rfl ?_
                    refine pw_iload r_12_why_154 rfl ?_
                    refine pw_const r_12_why_156 ?_
                    refine pw_idivN r_12_why_158 (by omega) (by omega) (by omega) ?_
                    refine pw_istore (ls' := [some (vR 12 (0)), some (vI (a)), some (vI (b)), some (vI (z)), some (vI (o)), some (vI ((x / 28))), some (vI ((y / 28))), some (vI (0))]) r_12_why_159 rfl rfl ?_
                    refine pw_goto r_12_why_161 ?_
                    exact ih80 (i + 1) ((x / 28)) ((y / 28)) (0) (r) (by omega) (by rw [sh_s _ hi.1, ← hx]) (by rw [sh_s _ hi.1, ← hy]) (by omega) (by first | exact hf.trans (b2i_congr ⟨fun q => hst.mpr ⟨q, hfi⟩, fun q => (hst.mp q).1⟩) | exact (b2i_t (hst.mpr ⟨hft, hfi⟩)).symm | exact (b2i_f (fun q => hff (hst.mp q).1)).symm | exact (b2i_f (fun q => hnfi (hst.mp q).2)).symm) (by first | exact (b2i_f (fun q => hnr (hst.mp q).2)).symm | exact hr.trans (b2i_congr ⟨fun q => hst.mpr ⟨q, hri⟩, fun q => (hst.mp q).1⟩)) (by omega)
                  · skip
                    have hfi : fit1M G z o i := by unfold fit1M; rw [← hx, ← hy]; omega
                    refine pw_const r_12_why_140 ?_
                    refine pw_goto r_12_why_141 ?_
                    refine pw_istore (ls' := [some (vR 12 (0)), some (vI (a)), some (vI (b)), some (vI (z)), some (vI (o)), some (vI (x)), some (vI (y)), some (vI (1))]) r_12_why_145 rfl rfl ?_
                    refine pw_iload r_12_why_147 rfl ?_
                    refine pw_const r_12_why_149 ?_
                    refine pw_idivN r_12_why_151 (by omega) (by omega) (by omega) ?_
                    refine pw_istore (ls' := [some (vR 12 (0)), some (vI (a)), some (vI (b)), some (vI (z)), some (vI (o)), some (vI ((x / 28))), some (vI (y)), some (vI (1))]) r_12_why_152 rfl rfl ?_
                    refine pw_iload r_12_why_154 rfl ?_
                    refine pw_const r_12_why_156 ?_
                    refine pw_idivN r_12_why_158 (by omega) (by omega) (by omega) ?_
                    refine pw_istore (ls' := [some (vR 12 (0)), some (vI (a)), some (vI (b)), some (vI (z)), some (vI (o)), some (vI ((x / 28))), some (vI ((y / 28))), some (vI (1))]) r_12_why_159 rfl rfl ?_
                    refine pw_goto r_12_why_161 ?_
                    exact ih80 (i + 1) ((x / 28)) ((y / 28)) (1) (r) (by omega) (by rw [sh_s _ hi.1, ← hx]) (by rw [sh_s _ hi.1, ← hy]) (by omega) (by first | exact hf.trans (b2i_congr ⟨fun q => hst.mpr ⟨q, hfi⟩, fun q => (hst.mp q).1⟩) | exact (b2i_t (hst.mpr ⟨hft, hfi⟩)).symm | exact (b2i_f (fun q => hff (hst.mp q).1)).symm | exact (b2i_f (fun q => hnfi (hst.mp q).2)).symm) (by first | exact (b2i_f (fun q => hnr (hst.mp q).2)).symm | exact hr.trans (b2i_congr ⟨fun q => hst.mpr ⟨q, hri⟩, fun q => (hst.mp q).1⟩)) (by omega)
              · skip
                have hnr : ¬ red1M G z o i := by unfold red1M; rw [← hx, ← hy]; omega
                have hfi : fit1M G z o i := by unfold fit1M; rw [← hx, ← hy]; omega
                refine pw_aload r_12_why_105 rfl ?_
                refine pw_const r_12_why_106 ?_
                refine pw_putZ r_12_why_107 (by decide +kernel) (by omega) fs_12_58 (by decide) ?_
                refine pw_goto r_12_why_110 ?_
                refine pw_iload r_12_why_147 rfl ?_
                refine pw_const r_12_why_149 ?_
                refine pw_idivN r_12_why_151 (by omega) (by omega) (by omega) ?_
                refine pw_istore (ls' := [some (vR 12 (0)), some (vI (a)), some (vI (b)), some (vI (z)), some (vI (o)), some (vI ((x / 28))), some (vI (y)), some (vI (f))]) r_12_why_152 rfl rfl ?_
                refine pw_iload r_12_why_154 rfl ?_
                refine pw_const r_12_why_156 ?_
                refine pw_idivN r_12_why_158 (by omega) (by omega) (by omega) ?_
                refine pw_istore (ls' := [some (vR 12 (0)), some (vI (a)), some (vI (b)), some (vI (z)), some (vI (o)), some (vI ((x / 28))), some (vI ((y / 28))), some (vI (f))]) r_12_why_159 rfl rfl ?_
                refine pw_goto r_12_why_161 ?_
                refine pw_eqG (G' := sF G 12 (0) 58 (0)) (by first | rfl | (rw [uA_self]; done) | (rw [sA_uA]; done) | (rw [sA_eq]; done) | (simp (disch := decide) only [sA_uA, sA_uA_ne, uA_abs, uA_abs2, uA_uA]; done) | (simp (disch := decide) only [sA_eq, sA_uA, sA_uA_ne, uA_abs, uA_abs2, uA_uA]; done) | (refine PH_ext (fun _ _ _ => ?_) (fun _ _ _ => ?_) (fun _ _ _ => ?_) <;> simp only [gF_sF, gF_sA, gF_uA, gF_sD, gA_sF, gA_sA, gA_uA, gA_sD, gD_sF, gD_sA, gD_uA, gD_sD] <;> (repeat' split) <;> first | rfl | (exfalso; omega) | simp_all)) ?_
                exact ih80 (i + 1) ((x / 28)) ((y / 28)) (f) (0) (by omega) (by rw [sh_s _ hi.1, ← hx]) (by rw [sh_s _ hi.1, ← hy]) (by omega) (by first | exact hf.trans (b2i_congr ⟨fun q => hst.mpr ⟨q, hfi⟩, fun q => (hst.mp q).1⟩) | exact (b2i_t (hst.mpr ⟨hft, hfi⟩)).symm | exact (b2i_f (fun q => hff (hst.mp q).1)).symm | exact (b2i_f (fun q => hnfi (hst.mp q).2)).symm) (by first | exact (b2i_f (fun q => hnr (hst.mp q).2)).symm | exact hr.trans (b2i_congr ⟨fun q => hst.mpr ⟨q, hri⟩, fun q => (hst.mp q).1⟩)) (by omega)
      exact L80 _ (0) (gA G 237 (0) (z)) (gA G 237 (0) (o)) (1) (1) (by omega) (rfl) (rfl) (hxy0) ((b2i_t (fun j a b => by omega)).symm) ((b2i_t (fun j a b => by omega)).symm) (Nat.lt_succ_self _)
    · skip
      refine pw_const r_12_why_53 ?_
      refine pw_iret r_12_why_54 rfl (Nat.le_refl _) ⟨rfl, ?_⟩
      exact h1 (by unfold lenM; rw [← hz, ← ho]; exact h50)
  have L14 : ∀ (z : Int), (hz : z = zeM G a b) → PW l w M_X12_why (d + 1) 14 [some (vR 12 (0)), some (vI (a)), some (vI (b)), none, none, none, none, none] [vI (z)] G P := by
    intro z hz
    refine pw_istore (ls' := [some (vR 12 (0)), some (vI (a)), some (vI (b)), some (vI (z)), none, none, none, none]) r_12_why_14 rfl rfl ?_
    refine pw_aload r_12_why_15 rfl ?_
    refine pw_getR r_12_why_16 fs_12_51 (by decide) ?_
    refine pw_iload r_12_why_19 rfl ?_
    refine pw_iald r_12_why_20 sh236 (by omega) (by omega) ?_
    refine pw_if_ne r_12_why_21 (fun h21 => ?_) (fun h21 => ?_)
    · skip
      refine pw_iload r_12_why_28 rfl ?_
      exact L29 (z) (a) (by first | assumption | omega) (by unfold onM; first | exact (if_pos (by omega)).symm | exact (if_neg (by omega)).symm) 
    · skip
      refine pw_iload r_12_why_24 rfl ?_
      refine pw_goto r_12_why_25 ?_
      exact L29 (z) (b) (by first | assumption | omega) (by unfold onM; first | exact (if_pos (by omega)).symm | exact (if_neg (by omega)).symm) 
  refine pw_aload r_12_why_0 rfl ?_
  refine pw_getR r_12_why_1 fs_12_51 (by decide) ?_
  refine pw_iload r_12_why_4 rfl ?_
  refine pw_iald r_12_why_5 sh236 (by omega) (by omega) ?_
  refine pw_if_ne r_12_why_6 (fun h06 => ?_) (fun h06 => ?_)
  · skip
    refine pw_iload r_12_why_13 rfl ?_
    exact L14 (b) (by unfold zeM; first | exact (if_pos (by omega)).symm | exact (if_neg (by omega)).symm) 
  · skip
    refine pw_iload r_12_why_9 rfl ?_
    refine pw_goto r_12_why_10 ?_
    exact L14 (a) (by unfold zeM; first | exact (if_pos (by omega)).symm | exact (if_neg (by omega)).symm) 
set_option maxRecDepth 10000 in
theorem sp_X12_sameOf {l : Launch} {w : Wo} {d : Nat} {G : PH} {P : Option PV → PH → Prop} {a b : Int} {ln : Int → Int} (hrw : 0 ≤ (gF G 12 0 55) ∧ (gF G 12 0 55) ≤ 100) (hrm : rowsM G ln) (ha : 0 ≤ a ∧ a < (gF G 12 0 55)) (hb : 0 ≤ b ∧ b < (gF G 12 0 55)) (hP : ∀ r, P (some (vI (samM G ln 0 a b))) (sF G 12 0 58 (r))) : PW l w M_X12_sameOf (d + 2) 0 [some (vR 12 (0)), some (vI (a)), some (vI (b))] [] G P := by
  refine pw_aload r_12_sameOf_0 rfl ?_
  refine pw_iload r_12_sameOf_1 rfl ?_
  refine pw_iload r_12_sameOf_2 rfl ?_
  refine pw_callV (av := [vI (a), vI (b)]) (st := []) (ls0 := [some (vR 12 (0)), some (vI (a)), some (vI (b)), none, none, none, none, none]) r_12_sameOf_3 rfl rfl rfl (Nat.le_refl _) ?_
  refine sp_X12_why (ln := ln) (by first | assumption | exact hrw | omega) (by first | assumption | exact hrm | omega) (by first | assumption | exact ha | omega) (by first | assumption | exact hb | omega) ?_ ?_
  · skip
    intro hnl
    refine pw_if_eq r_12_sameOf_6 (fun h06 => absurd h06 (by decide)) (fun h06 => ?_)
    refine pw_const r_12_sameOf_9 ?_
    refine pw_iret r_12_sameOf_10 rfl (Nat.le_refl _) ⟨rfl, ?_⟩
    first | (have hh := hP (gF G 12 0 58); rw [sF_self] at hh; exact pe hh (same_n (by decide) (by unfold whyM; rw [why_1 hnl]; decide)).symm) | exact pe (hP _) (same_n (by decide) (by omega)).symm | exact pe (hP _) (same_t (by decide) (by omega) ⟨b2i_eq1.mp (by rcases b2i_01 (redM G ln a b) with q | q; exact absurd q (by assumption); exact q), by omega, by omega, by omega, by omega⟩).symm | exact pe (hP _) (same_f (by decide) (by omega) (fun q => by have := q.2; omega)).symm | exact pe (hP _) (same_f (by decide) (by omega) (fun q => absurd q.1 (b2i_eq0.mp (by assumption)))).symm
  · skip
    intro hln
    refine pw_if_eq r_12_sameOf_6 (fun h06 => ?_) (fun h06 => ?_)
    · skip
      refine pw_aload r_12_sameOf_11 rfl ?_
      refine pw_getIv (v := b2i (redM G ln a b)) r_12_sameOf_12 fs_12_58 (by decide) (by first | rfl | simp [gF_sF, gF_sA, gF_uA, gF_sD, gA_sF, gA_sA, gA_uA, gA_sD, gD_sF, gD_sA, gD_uA, gD_sD]) ?_
      refine pw_if_eq r_12_sameOf_15 (fun h15 => ?_) (fun h15 => ?_)
      · skip
        refine pw_const r_12_sameOf_58 ?_
        refine pw_iret r_12_sameOf_59 rfl (Nat.le_refl _) ⟨rfl, ?_⟩
        first | (have hh := hP (gF G 12 0 58); rw [sF_self] at hh; exact pe hh (same_n (by decide) (by unfold whyM; rw [why_1 hnl]; decide)).symm) | exact pe (hP _) (same_n (by decide) (by omega)).symm | exact pe (hP _) (same_t (by decide) (by omega) ⟨b2i_eq1.mp (by rcases b2i_01 (redM G ln a b) with q | q; exact absurd q (by assumption); exact q), by omega, by omega, by omega, by omega⟩).symm | exact pe (hP _) (same_f (by decide) (by omega) (fun q => by have := q.2; omega)).symm | exact pe (hP _) (same_f (by decide) (by omega) (fun q => absurd q.1 (b2i_eq0.mp (by assumption)))).symm
      · skip
        refine pw_aload r_12_sameOf_18 rfl ?_
        refine pw_getR r_12_sameOf_19 fs_12_53 (by decide) ?_
        refine pw_iload r_12_sameOf_22 rfl ?_
        refine pw_ialdv (v := gA G 238 (0) (a)) r_12_sameOf_23 sh238 (by omega) (by omega) (by first | rfl | simp [gF_sF, gF_sA, gF_uA, gF_sD, gA_sF, gA_sA, gA_uA, gA_sD, gD_sF, gD_sA, gD_uA, gD_sD]) ?_
        refine pw_if_lt r_12_sameOf_24 (fun h24 => ?_) (fun h24 => ?_)
        · skip
          refine pw_const r_12_sameOf_58 ?_
          refine pw_iret r_12_sameOf_59 rfl (Nat.le_refl _) ⟨rfl, ?_⟩
          first | (have hh := hP (gF G 12 0 58); rw [sF_self] at hh; exact pe hh (same_n (by decide) (by unfold whyM; rw [why_1 hnl]; decide)).symm) | exact pe (hP _) (same_n (by decide) (by omega)).symm | exact pe (hP _) (same_t (by decide) (by omega) ⟨b2i_eq1.mp (by rcases b2i_01 (redM G ln a b) with q | q; exact absurd q (by assumption); exact q), by omega, by omega, by omega, by omega⟩).symm | exact pe (hP _) (same_f (by decide) (by omega) (fun q => by have := q.2; omega)).symm | exact pe (hP _) (same_f (by decide) (by omega) (fun q => absurd q.1 (b2i_eq0.mp (by assumption)))).symm
        · skip
          refine pw_aload r_12_sameOf_27 rfl ?_
          refine pw_getR r_12_sameOf_28 fs_12_53 (by decide) ?_
          refine pw_iload r_12_sameOf_31 rfl ?_
          refine pw_ialdv (v := gA G 238 (0) (b)) r_12_sameOf_32 sh238 (by omega) (by omega) (by first | rfl | simp [gF_sF, gF_sA, gF_uA, gF_sD, gA_sF, gA_sA, gA_uA, gA_sD, gD_sF, gD_sA, gD_uA, gD_sD]) ?_
          refine pw_if_lt r_12_sameOf_33 (fun h33 => ?_) (fun h33 => ?_)
          · skip
            refine pw_const r_12_sameOf_58 ?_
            refine pw_iret r_12_sameOf_59 rfl (Nat.le_refl _) ⟨rfl, ?_⟩
            first | (have hh := hP (gF G 12 0 58); rw [sF_self] at hh; exact pe hh (same_n (by decide) (by unfold whyM; rw [why_1 hnl]; decide)).symm) | exact pe (hP _) (same_n (by decide) (by omega)).symm | exact pe (hP _) (same_t (by decide) (by omega) ⟨b2i_eq1.mp (by rcases b2i_01 (redM G ln a b) with q | q; exact absurd q (by assumption); exact q), by omega, by omega, by omega, by omega⟩).symm | exact pe (hP _) (same_f (by decide) (by omega) (fun q => by have := q.2; omega)).symm | exact pe (hP _) (same_f (by decide) (by omega) (fun q => absurd q.1 (b2i_eq0.mp (by assumption)))).symm
          · skip
            refine pw_aload r_12_sameOf_36 rfl ?_
            refine pw_getR r_12_sameOf_37 fs_12_54 (by decide) ?_
            refine pw_iload r_12_sameOf_40 rfl ?_
            refine pw_ialdv (v := gA G 239 (0) (a)) r_12_sameOf_41 sh239 (by omega) (by omega) (by first | rfl | simp [gF_sF, gF_sA, gF_uA, gF_sD, gA_sF, gA_sA, gA_uA, gA_sD, gD_sF, gD_sA, gD_uA, gD_sD]) ?_
            refine pw_if_lt r_12_sameOf_42 (fun h42 => ?_) (fun h42 => ?_)
            · skip
              refine pw_const r_12_sameOf_58 ?_
              refine pw_iret r_12_sameOf_59 rfl (Nat.le_refl _) ⟨rfl, ?_⟩
              first | (have hh := hP (gF G 12 0 58); rw [sF_self] at hh; exact pe hh (same_n (by decide) (by unfold whyM; rw [why_1 hnl]; decide)).symm) | exact pe (hP _) (same_n (by decide) (by omega)).symm | exact pe (hP _) (same_t (by decide) (by omega) ⟨b2i_eq1.mp (by rcases b2i_01 (redM G ln a b) with q | q; exact absurd q (by assumption); exact q), by omega, by omega, by omega, by omega⟩).symm | exact pe (hP _) (same_f (by decide) (by omega) (fun q => by have := q.2; omega)).symm | exact pe (hP _) (same_f (by decide) (by omega) (fun q => absurd q.1 (b2i_eq0.mp (by assumption)))).symm
            · skip
              refine pw_aload r_12_sameOf_45 rfl ?_
              refine pw_getR r_12_sameOf_46 fs_12_54 (by decide) ?_
              refine pw_iload r_12_sameOf_49 rfl ?_
              refine pw_ialdv (v := gA G 239 (0) (b)) r_12_sameOf_50 sh239 (by omega) (by omega) (by first | rfl | simp [gF_sF, gF_sA, gF_uA, gF_sD, gA_sF, gA_sA, gA_uA, gA_sD, gD_sF, gD_sA, gD_uA, gD_sD]) ?_
              refine pw_if_lt r_12_sameOf_51 (fun h51 => ?_) (fun h51 => ?_)
              · skip
                refine pw_const r_12_sameOf_58 ?_
                refine pw_iret r_12_sameOf_59 rfl (Nat.le_refl _) ⟨rfl, ?_⟩
                first | (have hh := hP (gF G 12 0 58); rw [sF_self] at hh; exact pe hh (same_n (by decide) (by unfold whyM; rw [why_1 hnl]; decide)).symm) | exact pe (hP _) (same_n (by decide) (by omega)).symm | exact pe (hP _) (same_t (by decide) (by omega) ⟨b2i_eq1.mp (by rcases b2i_01 (redM G ln a b) with q | q; exact absurd q (by assumption); exact q), by omega, by omega, by omega, by omega⟩).symm | exact pe (hP _) (same_f (by decide) (by omega) (fun q => by have := q.2; omega)).symm | exact pe (hP _) (same_f (by decide) (by omega) (fun q => absurd q.1 (b2i_eq0.mp (by assumption)))).symm
              · skip
                refine pw_const r_12_sameOf_54 ?_
                refine pw_goto r_12_sameOf_55 ?_
                refine pw_iret r_12_sameOf_59 rfl (Nat.le_refl _) ⟨rfl, ?_⟩
                first | (have hh := hP (gF G 12 0 58); rw [sF_self] at hh; exact pe hh (same_n (by decide) (by unfold whyM; rw [why_1 hnl]; decide)).symm) | exact pe (hP _) (same_n (by decide) (by omega)).symm | exact pe (hP _) (same_t (by decide) (by omega) ⟨b2i_eq1.mp (by rcases b2i_01 (redM G ln a b) with q | q; exact absurd q (by assumption); exact q), by omega, by omega, by omega, by omega⟩).symm | exact pe (hP _) (same_f (by decide) (by omega) (fun q => by have := q.2; omega)).symm | exact pe (hP _) (same_f (by decide) (by omega) (fun q => absurd q.1 (b2i_eq0.mp (by assumption)))).symm
    · skip
      refine pw_const r_12_sameOf_9 ?_
      refine pw_iret r_12_sameOf_10 rfl (Nat.le_refl _) ⟨rfl, ?_⟩
      first | (have hh := hP (gF G 12 0 58); rw [sF_self] at hh; exact pe hh (same_n (by decide) (by unfold whyM; rw [why_1 hnl]; decide)).symm) | exact pe (hP _) (same_n (by decide) (by omega)).symm | exact pe (hP _) (same_t (by decide) (by omega) ⟨b2i_eq1.mp (by rcases b2i_01 (redM G ln a b) with q | q; exact absurd q (by assumption); exact q), by omega, by omega, by omega, by omega⟩).symm | exact pe (hP _) (same_f (by decide) (by omega) (fun q => by have := q.2; omega)).symm | exact pe (hP _) (same_f (by decide) (by omega) (fun q => absurd q.1 (b2i_eq0.mp (by assumption)))).symm
set_option maxRecDepth 10000 in
theorem sp_X12_same {l : Launch} {w : Wo} {d : Nat} {G : PH} {P : Option PV → PH → Prop} {a b k : Int} {ln : Int → Int} (hrw : 0 ≤ (gF G 12 0 55) ∧ (gF G 12 0 55) ≤ 100) (hrm : rowsM G ln) (h1 : ¬ ((0 ≤ a ∧ a < (gF G 12 0 55)) ∧ (0 ≤ b ∧ b < (gF G 12 0 55)) ∧ (gA G 236 0 (a)) ≠ (gA G 236 0 (b)) ∧ 0 ≤ k ∧ k ≤ 1) → P (some (vI (-1))) G) (h2 : ((0 ≤ a ∧ a < (gF G 12 0 55)) ∧ (0 ≤ b ∧ b < (gF G 12 0 55)) ∧ (gA G 236 0 (a)) ≠ (gA G 236 0 (b)) ∧ 0 ≤ k ∧ k ≤ 1) → ∀ r, P (some (vI (samM G ln k a b))) (sF G 12 0 58 (r))) : PW l w M_X12_same (d + 3) 0 [some (vR 12 (0)), some (vI (a)), some (vI (b)), some (vI (k))] [] G P := by
  refine pw_aload r_12_same_0 rfl ?_
  refine pw_iload r_12_same_1 rfl ?_
  refine pw_callV (av := [vI (a)]) (st := []) (ls0 := [some (vR 12 (0)), some (vI (a))]) r_12_same_2 rfl rfl rfl (Nat.le_refl _) ?_
  refine sp_X12_isRow  ?_
  refine pw_if_eqB r_12_same_5 (fun h05 => ?_) (fun h05 => ?_)
  · skip
    refine pw_const r_12_same_40 ?_
    refine pw_iret r_12_same_41 rfl (Nat.le_refl _) ⟨rfl, ?_⟩
    first | exact h1 (by omega) | (have hk0 : k = 0 := (by omega); subst hk0; exact h2 (by omega) _) | (have hk1 : k = 1 := (by omega); subst hk1; have hh := h2 (by omega) (gF G 12 0 58); rw [sF_self] at hh; exact pe hh (same_1.trans (by unfold whyM; rw [why_1 hnl])).symm) | (have hk1 : k = 1 := (by omega); subst hk1; exact pe (h2 (by omega) _) same_1.symm)
  · skip
    refine pw_aload r_12_same_8 rfl ?_
    refine pw_iload r_12_same_9 rfl ?_
    refine pw_callV (av := [vI (b)]) (st := []) (ls0 := [some (vR 12 (0)), some (vI (b))]) r_12_same_10 rfl rfl rfl (Nat.le_refl _) ?_
    refine sp_X12_isRow  ?_
    refine pw_if_eqB r_12_same_13 (fun h13 => ?_) (fun h13 => ?_)
    · skip
      refine pw_const r_12_same_40 ?_
      refine pw_iret r_12_same_41 rfl (Nat.le_refl _) ⟨rfl, ?_⟩
      first | exact h1 (by omega) | (have hk0 : k = 0 := (by omega); subst hk0; exact h2 (by omega) _) | (have hk1 : k = 1 := (by omega); subst hk1; have hh := h2 (by omega) (gF G 12 0 58); rw [sF_self] at hh; exact pe hh (same_1.trans (by unfold whyM; rw [why_1 hnl])).symm) | (have hk1 : k = 1 := (by omega); subst hk1; exact pe (h2 (by omega) _) same_1.symm)
    · skip
      refine pw_aload r_12_same_16 rfl ?_
      refine pw_getR r_12_same_17 fs_12_51 (by decide) ?_
      refine pw_iload r_12_same_20 rfl ?_
      refine pw_iald r_12_same_21 sh236 (by omega) (by omega) ?_
      refine pw_aload r_12_same_22 rfl ?_
      refine pw_getR r_12_same_23 fs_12_51 (by decide) ?_
      refine pw_iload r_12_same_26 rfl ?_
      refine pw_iald r_12_same_27 sh236 (by omega) (by omega) ?_
      refine pw_icmp_eq r_12_same_28 (fun h28 => ?_) (fun h28 => ?_)
      · skip
        refine pw_const r_12_same_40 ?_
        refine pw_iret r_12_same_41 rfl (Nat.le_refl _) ⟨rfl, ?_⟩
        first | exact h1 (by omega) | (have hk0 : k = 0 := (by omega); subst hk0; exact h2 (by omega) _) | (have hk1 : k = 1 := (by omega); subst hk1; have hh := h2 (by omega) (gF G 12 0 58); rw [sF_self] at hh; exact pe hh (same_1.trans (by unfold whyM; rw [why_1 hnl])).symm) | (have hk1 : k = 1 := (by omega); subst hk1; exact pe (h2 (by omega) _) same_1.symm)
      · skip
        refine pw_iload r_12_same_31 rfl ?_
        refine pw_const r_12_same_32 ?_
        refine pw_const r_12_same_33 ?_
        refine pw_callS (av := [vI (k), vI (0), vI (1)]) (st := []) (ls0 := [some (vI (k)), some (vI (0)), some (vI (1))]) r_12_same_34 rfl rfl rfl (Nat.le_refl _) ?_
        refine sp_X12_within  ?_
        refine pw_if_neB r_12_same_37 (fun h37 => ?_) (fun h37 => ?_)
        · skip
          refine pw_iload r_12_same_42 rfl ?_
          refine pw_if_ne r_12_same_43 (fun h43 => ?_) (fun h43 => ?_)
          · skip
            refine pw_aload r_12_same_55 rfl ?_
            refine pw_iload r_12_same_56 rfl ?_
            refine pw_iload r_12_same_57 rfl ?_
            refine pw_callV (av := [vI (a), vI (b)]) (st := []) (ls0 := [some (vR 12 (0)), some (vI (a)), some (vI (b)), none, none, none, none, none]) r_12_same_58 rfl rfl rfl (Nat.le_refl _) ?_
            refine sp_X12_why (ln := ln) (by first | assumption | exact hrw | omega) (by first | assumption | exact hrm | omega) (by first | assumption | exact ha | omega) (by first | assumption | exact hb | omega) ?_ ?_
            · skip
              intro hnl
              refine pw_iret r_12_same_61 rfl (Nat.le_refl _) ⟨rfl, ?_⟩
              first | exact h1 (by omega) | (have hk0 : k = 0 := (by omega); subst hk0; exact h2 (by omega) _) | (have hk1 : k = 1 := (by omega); subst hk1; have hh := h2 (by omega) (gF G 12 0 58); rw [sF_self] at hh; exact pe hh (same_1.trans (by unfold whyM; rw [why_1 hnl])).symm) | (have hk1 : k = 1 := (by omega); subst hk1; exact pe (h2 (by omega) _) same_1.symm)
            · skip
              intro hln
              refine pw_iret r_12_same_61 rfl (Nat.le_refl _) ⟨rfl, ?_⟩
              first | exact h1 (by omega) | (have hk0 : k = 0 := (by omega); subst hk0; exact h2 (by omega) _) | (have hk1 : k = 1 := (by omega); subst hk1; have hh := h2 (by omega) (gF G 12 0 58); rw [sF_self] at hh; exact pe hh (same_1.trans (by unfold whyM; rw [why_1 hnl])).symm) | (have hk1 : k = 1 := (by omega); subst hk1; exact pe (h2 (by omega) _) same_1.symm)
          · skip
            refine pw_aload r_12_same_46 rfl ?_
            refine pw_iload r_12_same_47 rfl ?_
            refine pw_iload r_12_same_48 rfl ?_
            refine pw_callV (av := [vI (a), vI (b)]) (st := []) (ls0 := [some (vR 12 (0)), some (vI (a)), some (vI (b))]) r_12_same_49 rfl rfl rfl (Nat.le_refl _) ?_
            refine sp_X12_sameOf (ln := ln) (by first | assumption | exact hrw | omega) (by first | assumption | exact hrm | omega) (by first | assumption | exact ha | omega) (by first | assumption | exact hb | omega) ?_
            intro r
            refine pw_goto r_12_same_52 ?_
            refine pw_iret r_12_same_61 rfl (Nat.le_refl _) ⟨rfl, ?_⟩
            first | exact h1 (by omega) | (have hk0 : k = 0 := (by omega); subst hk0; exact h2 (by omega) _) | (have hk1 : k = 1 := (by omega); subst hk1; have hh := h2 (by omega) (gF G 12 0 58); rw [sF_self] at hh; exact pe hh (same_1.trans (by unfold whyM; rw [why_1 hnl])).symm) | (have hk1 : k = 1 := (by omega); subst hk1; exact pe (h2 (by omega) _) same_1.symm)
        · skip
          refine pw_const r_12_same_40 ?_
          refine pw_iret r_12_same_41 rfl (Nat.le_refl _) ⟨rfl, ?_⟩
          first | exact h1 (by omega) | (have hk0 : k = 0 := (by omega); subst hk0; exact h2 (by omega) _) | (have hk1 : k = 1 := (by omega); subst hk1; have hh := h2 (by omega) (gF G 12 0 58); rw [sF_self] at hh; exact pe hh (same_1.trans (by unfold whyM; rw [why_1 hnl])).symm) | (have hk1 : k = 1 := (by omega); subst hk1; exact pe (h2 (by omega) _) same_1.symm)
set_option maxRecDepth 10000 in
theorem sp_X12_mustBeApart {l : Launch} {w : Wo} {d : Nat} {G : PH} {P : Option PV → PH → Prop} {a b : Int} {ln : Int → Int} (hrw : 0 ≤ (gF G 12 0 55) ∧ (gF G 12 0 55) ≤ 100) (hrm : rowsM G ln) (ha : 0 ≤ a ∧ a < (gF G 12 0 55)) (hb : 0 ≤ b ∧ b < (gF G 12 0 55)) (hP : ∀ r, P (some (vI (b2i (aptM G ln a b)))) (sF G 12 0 58 (r))) : PW l w M_X12_mustBeApart (d + 2) 0 [some (vR 12 (0)), some (vI (a)), some (vI (b)), none] [] G P := by
  have hca := hrm a ha.1 ha.2
  have hcb := hrm b hb.1 hb.2
  refine pw_aload r_12_mustBeApart_0 rfl ?_
  refine pw_getR r_12_mustBeApart_1 fs_12_51 (by decide) ?_
  refine pw_iload r_12_mustBeApart_4 rfl ?_
  refine pw_iald r_12_mustBeApart_5 sh236 (by omega) (by omega) ?_
  refine pw_aload r_12_mustBeApart_6 rfl ?_
  refine pw_getR r_12_mustBeApart_7 fs_12_51 (by decide) ?_
  refine pw_iload r_12_mustBeApart_10 rfl ?_
  refine pw_iald r_12_mustBeApart_11 sh236 (by omega) (by omega) ?_
  refine pw_icmp_eq r_12_mustBeApart_12 (fun h12 => ?_) (fun h12 => ?_)
  · skip
    refine pw_aload r_12_mustBeApart_30 rfl ?_
    refine pw_getR r_12_mustBeApart_31 fs_12_53 (by decide) ?_
    refine pw_iload r_12_mustBeApart_34 rfl ?_
    refine pw_iald r_12_mustBeApart_35 sh238 (by omega) (by omega) ?_
    refine pw_if_lt r_12_mustBeApart_36 (fun h36 => ?_) (fun h36 => ?_)
    · skip
      refine pw_const r_12_mustBeApart_74 ?_
      refine pw_istore (ls' := [some (vR 12 (0)), some (vI (a)), some (vI (b)), some (vI (0))]) r_12_mustBeApart_75 rfl rfl ?_
      refine pw_iload r_12_mustBeApart_76 rfl ?_
      refine pw_if_ne r_12_mustBeApart_77 (fun h77 => absurd h77 (by decide)) (fun h77 => ?_)
      refine pw_aload r_12_mustBeApart_80 rfl ?_
      refine pw_getR r_12_mustBeApart_81 fs_12_54 (by decide) ?_
      refine pw_iload r_12_mustBeApart_84 rfl ?_
      refine pw_iald r_12_mustBeApart_85 sh239 (by omega) (by omega) ?_
      refine pw_if_lt r_12_mustBeApart_86 (fun h86 => ?_) (fun h86 => ?_)
      · skip
        refine pw_const r_12_mustBeApart_117 ?_
        refine pw_zret r_12_mustBeApart_118 rfl (Or.inl rfl) (Nat.le_refl _) ⟨rfl, ?_⟩
        first | (have hh := hP (gF G 12 0 58); rw [sF_self] at hh; exact pe hh (b2i_t (Or.inl ⟨by assumption, by unfold whyM; rw [why_1 hnl]; decide⟩)).symm) | exact pe (hP _) (b2i_t (Or.inl ⟨by assumption, by assumption⟩)).symm | exact pe (hP _) (b2i_f (fun q => by rcases q with q | q; exact absurd (by assumption) q.2; exact absurd q.1 (by assumption))).symm | (have hh := hP (gF G 12 0 58); rw [sF_self] at hh; exact pe hh (b2i_t (Or.inr ⟨by assumption, by unfold ageM untM; omega⟩)).symm) | (have hh := hP (gF G 12 0 58); rw [sF_self] at hh; exact pe hh (b2i_f (fun q => by rcases q with q | q; exact absurd (by assumption) q.1; have q2 := q.2; unfold ageM untM at q2; omega)).symm)
      · skip
        refine pw_aload r_12_mustBeApart_89 rfl ?_
        refine pw_getR r_12_mustBeApart_90 fs_12_54 (by decide) ?_
        refine pw_iload r_12_mustBeApart_93 rfl ?_
        refine pw_iald r_12_mustBeApart_94 sh239 (by omega) (by omega) ?_
        refine pw_if_lt r_12_mustBeApart_95 (fun h95 => ?_) (fun h95 => ?_)
        · skip
          refine pw_const r_12_mustBeApart_117 ?_
          refine pw_zret r_12_mustBeApart_118 rfl (Or.inl rfl) (Nat.le_refl _) ⟨rfl, ?_⟩
          first | (have hh := hP (gF G 12 0 58); rw [sF_self] at hh; exact pe hh (b2i_t (Or.inl ⟨by assumption, by unfold whyM; rw [why_1 hnl]; decide⟩)).symm) | exact pe (hP _) (b2i_t (Or.inl ⟨by assumption, by assumption⟩)).symm | exact pe (hP _) (b2i_f (fun q => by rcases q with q | q; exact absurd (by assumption) q.2; exact absurd q.1 (by assumption))).symm | (have hh := hP (gF G 12 0 58); rw [sF_self] at hh; exact pe hh (b2i_t (Or.inr ⟨by assumption, by unfold ageM untM; omega⟩)).symm) | (have hh := hP (gF G 12 0 58); rw [sF_self] at hh; exact pe hh (b2i_f (fun q => by rcases q with q | q; exact absurd (by assumption) q.1; have q2 := q.2; unfold ageM untM at q2; omega)).symm)
        · skip
          refine pw_aload r_12_mustBeApart_98 rfl ?_
          refine pw_getR r_12_mustBeApart_99 fs_12_54 (by decide) ?_
          refine pw_iload r_12_mustBeApart_102 rfl ?_
          refine pw_iald r_12_mustBeApart_103 sh239 (by omega) (by omega) ?_
          refine pw_aload r_12_mustBeApart_104 rfl ?_
          refine pw_getR r_12_mustBeApart_105 fs_12_54 (by decide) ?_
          refine pw_iload r_12_mustBeApart_108 rfl ?_
          refine pw_iald r_12_mustBeApart_109 sh239 (by omega) (by omega) ?_
          refine pw_icmp_eq r_12_mustBeApart_110 (fun h110 => ?_) (fun h110 => ?_)
          · skip
            refine pw_const r_12_mustBeApart_117 ?_
            refine pw_zret r_12_mustBeApart_118 rfl (Or.inl rfl) (Nat.le_refl _) ⟨rfl, ?_⟩
            first | (have hh := hP (gF G 12 0 58); rw [sF_self] at hh; exact pe hh (b2i_t (Or.inl ⟨by assumption, by unfold whyM; rw [why_1 hnl]; decide⟩)).symm) | exact pe (hP _) (b2i_t (Or.inl ⟨by assumption, by assumption⟩)).symm | exact pe (hP _) (b2i_f (fun q => by rcases q with q | q; exact absurd (by assumption) q.2; exact absurd q.1 (by assumption))).symm | (have hh := hP (gF G 12 0 58); rw [sF_self] at hh; exact pe hh (b2i_t (Or.inr ⟨by assumption, by unfold ageM untM; omega⟩)).symm) | (have hh := hP (gF G 12 0 58); rw [sF_self] at hh; exact pe hh (b2i_f (fun q => by rcases q with q | q; exact absurd (by assumption) q.1; have q2 := q.2; unfold ageM untM at q2; omega)).symm)
          · skip
            refine pw_const r_12_mustBeApart_113 ?_
            refine pw_goto r_12_mustBeApart_114 ?_
            refine pw_zret r_12_mustBeApart_118 rfl (Or.inr rfl) (Nat.le_refl _) ⟨rfl, ?_⟩
            first | (have hh := hP (gF G 12 0 58); rw [sF_self] at hh; exact pe hh (b2i_t (Or.inl ⟨by assumption, by unfold whyM; rw [why_1 hnl]; decide⟩)).symm) | exact pe (hP _) (b2i_t (Or.inl ⟨by assumption, by assumption⟩)).symm | exact pe (hP _) (b2i_f (fun q => by rcases q with q | q; exact absurd (by assumption) q.2; exact absurd q.1 (by assumption))).symm | (have hh := hP (gF G 12 0 58); rw [sF_self] at hh; exact pe hh (b2i_t (Or.inr ⟨by assumption, by unfold ageM untM; omega⟩)).symm) | (have hh := hP (gF G 12 0 58); rw [sF_self] at hh; exact pe hh (b2i_f (fun q => by rcases q with q | q; exact absurd (by assumption) q.1; have q2 := q.2; unfold ageM untM at q2; omega)).symm)
    · skip
      refine pw_aload r_12_mustBeApart_39 rfl ?_
      refine pw_getR r_12_mustBeApart_40 fs_12_53 (by decide) ?_
      refine pw_iload r_12_mustBeApart_43 rfl ?_
      refine pw_iald r_12_mustBeApart_44 sh238 (by omega) (by omega) ?_
      refine pw_if_lt r_12_mustBeApart_45 (fun h45 => ?_) (fun h45 => ?_)
      · skip
        refine pw_const r_12_mustBeApart_74 ?_
        refine pw_istore (ls' := [some (vR 12 (0)), some (vI (a)), some (vI (b)), some (vI (0))]) r_12_mustBeApart_75 rfl rfl ?_
        refine pw_iload r_12_mustBeApart_76 rfl ?_
        refine pw_if_ne r_12_mustBeApart_77 (fun h77 => absurd h77 (by decide)) (fun h77 => ?_)
        refine pw_aload r_12_mustBeApart_80 rfl ?_
        refine pw_getR r_12_mustBeApart_81 fs_12_54 (by decide) ?_
        refine pw_iload r_12_mustBeApart_84 rfl ?_
        refine pw_iald r_12_mustBeApart_85 sh239 (by omega) (by omega) ?_
        refine pw_if_lt r_12_mustBeApart_86 (fun h86 => ?_) (fun h86 => ?_)
        · skip
          refine pw_const r_12_mustBeApart_117 ?_
          refine pw_zret r_12_mustBeApart_118 rfl (Or.inl rfl) (Nat.le_refl _) ⟨rfl, ?_⟩
          first | (have hh := hP (gF G 12 0 58); rw [sF_self] at hh; exact pe hh (b2i_t (Or.inl ⟨by assumption, by unfold whyM; rw [why_1 hnl]; decide⟩)).symm) | exact pe (hP _) (b2i_t (Or.inl ⟨by assumption, by assumption⟩)).symm | exact pe (hP _) (b2i_f (fun q => by rcases q with q | q; exact absurd (by assumption) q.2; exact absurd q.1 (by assumption))).symm | (have hh := hP (gF G 12 0 58); rw [sF_self] at hh; exact pe hh (b2i_t (Or.inr ⟨by assumption, by unfold ageM untM; omega⟩)).symm) | (have hh := hP (gF G 12 0 58); rw [sF_self] at hh; exact pe hh (b2i_f (fun q => by rcases q with q | q; exact absurd (by assumption) q.1; have q2 := q.2; unfold ageM untM at q2; omega)).symm)
        · skip
          refine pw_aload r_12_mustBeApart_89 rfl ?_
          refine pw_getR r_12_mustBeApart_90 fs_12_54 (by decide) ?_
          refine pw_iload r_12_mustBeApart_93 rfl ?_
          refine pw_iald r_12_mustBeApart_94 sh239 (by omega) (by omega) ?_
          refine pw_if_lt r_12_mustBeApart_95 (fun h95 => ?_) (fun h95 => ?_)
          · skip
            refine pw_const r_12_mustBeApart_117 ?_
            refine pw_zret r_12_mustBeApart_118 rfl (Or.inl rfl) (Nat.le_refl _) ⟨rfl, ?_⟩
            first | (have hh := hP (gF G 12 0 58); rw [sF_self] at hh; exact pe hh (b2i_t (Or.inl ⟨by assumption, by unfold whyM; rw [why_1 hnl]; decide⟩)).symm) | exact pe (hP _) (b2i_t (Or.inl ⟨by assumption, by assumption⟩)).symm | exact pe (hP _) (b2i_f (fun q => by rcases q with q | q; exact absurd (by assumption) q.2; exact absurd q.1 (by assumption))).symm | (have hh := hP (gF G 12 0 58); rw [sF_self] at hh; exact pe hh (b2i_t (Or.inr ⟨by assumption, by unfold ageM untM; omega⟩)).symm) | (have hh := hP (gF G 12 0 58); rw [sF_self] at hh; exact pe hh (b2i_f (fun q => by rcases q with q | q; exact absurd (by assumption) q.1; have q2 := q.2; unfold ageM untM at q2; omega)).symm)
          · skip
            refine pw_aload r_12_mustBeApart_98 rfl ?_
            refine pw_getR r_12_mustBeApart_99 fs_12_54 (by decide) ?_
            refine pw_iload r_12_mustBeApart_102 rfl ?_
            refine pw_iald r_12_mustBeApart_103 sh239 (by omega) (by omega) ?_
            refine pw_aload r_12_mustBeApart_104 rfl ?_
            refine pw_getR r_12_mustBeApart_105 fs_12_54 (by decide) ?_
            refine pw_iload r_12_mustBeApart_108 rfl ?_
            refine pw_iald r_12_mustBeApart_109 sh239 (by omega) (by omega) ?_
            refine pw_icmp_eq r_12_mustBeApart_110 (fun h110 => ?_) (fun h110 => ?_)
            · skip
              refine pw_const r_12_mustBeApart_117 ?_
              refine pw_zret r_12_mustBeApart_118 rfl (Or.inl rfl) (Nat.le_refl _) ⟨rfl, ?_⟩
              first | (have hh := hP (gF G 12 0 58); rw [sF_self] at hh; exact pe hh (b2i_t (Or.inl ⟨by assumption, by unfold whyM; rw [why_1 hnl]; decide⟩)).symm) | exact pe (hP _) (b2i_t (Or.inl ⟨by assumption, by assumption⟩)).symm | exact pe (hP _) (b2i_f (fun q => by rcases q with q | q; exact absurd (by assumption) q.2; exact absurd q.1 (by assumption))).symm | (have hh := hP (gF G 12 0 58); rw [sF_self] at hh; exact pe hh (b2i_t (Or.inr ⟨by assumption, by unfold ageM untM; omega⟩)).symm) | (have hh := hP (gF G 12 0 58); rw [sF_self] at hh; exact pe hh (b2i_f (fun q => by rcases q with q | q; exact absurd (by assumption) q.1; have q2 := q.2; unfold ageM untM at q2; omega)).symm)
            · skip
              refine pw_const r_12_mustBeApart_113 ?_
              refine pw_goto r_12_mustBeApart_114 ?_
              refine pw_zret r_12_mustBeApart_118 rfl (Or.inr rfl) (Nat.le_refl _) ⟨rfl, ?_⟩
              first | (have hh := hP (gF G 12 0 58); rw [sF_self] at hh; exact pe hh (b2i_t (Or.inl ⟨by assumption, by unfold whyM; rw [why_1 hnl]; decide⟩)).symm) | exact pe (hP _) (b2i_t (Or.inl ⟨by assumption, by assumption⟩)).symm | exact pe (hP _) (b2i_f (fun q => by rcases q with q | q; exact absurd (by assumption) q.2; exact absurd q.1 (by assumption))).symm | (have hh := hP (gF G 12 0 58); rw [sF_self] at hh; exact pe hh (b2i_t (Or.inr ⟨by assumption, by unfold ageM untM; omega⟩)).symm) | (have hh := hP (gF G 12 0 58); rw [sF_self] at hh; exact pe hh (b2i_f (fun q => by rcases q with q | q; exact absurd (by assumption) q.1; have q2 := q.2; unfold ageM untM at q2; omega)).symm)
      · skip
        refine pw_aload r_12_mustBeApart_48 rfl ?_
        refine pw_getR r_12_mustBeApart_49 fs_12_53 (by decide) ?_
        refine pw_iload r_12_mustBeApart_52 rfl ?_
        refine pw_iald r_12_mustBeApart_53 sh238 (by omega) (by omega) ?_
        refine pw_aload r_12_mustBeApart_54 rfl ?_
        refine pw_getR r_12_mustBeApart_55 fs_12_53 (by decide) ?_
        refine pw_iload r_12_mustBeApart_58 rfl ?_
        refine pw_iald r_12_mustBeApart_59 sh238 (by omega) (by omega) ?_
        refine pw_isub r_12_mustBeApart_60 (by omega) ?_
        refine pw_const r_12_mustBeApart_61 ?_
        refine pw_const r_12_mustBeApart_63 ?_
        refine pw_callS (av := [vI (((gA G 238 (0) (a)) - (gA G 238 (0) (b)))), vI ((-2)), vI (2)]) (st := []) (ls0 := [some (vI (((gA G 238 (0) (a)) - (gA G 238 (0) (b))))), some (vI ((-2))), some (vI (2))]) r_12_mustBeApart_64 rfl rfl rfl (Nat.le_refl _) ?_
        refine sp_X12_within  ?_
        refine pw_if_neB r_12_mustBeApart_67 (fun h67 => ?_) (fun h67 => ?_)
        · skip
          refine pw_const r_12_mustBeApart_74 ?_
          refine pw_istore (ls' := [some (vR 12 (0)), some (vI (a)), some (vI (b)), some (vI (0))]) r_12_mustBeApart_75 rfl rfl ?_
          refine pw_iload r_12_mustBeApart_76 rfl ?_
          refine pw_if_ne r_12_mustBeApart_77 (fun h77 => absurd h77 (by decide)) (fun h77 => ?_)
          refine pw_aload r_12_mustBeApart_80 rfl ?_
          refine pw_getR r_12_mustBeApart_81 fs_12_54 (by decide) ?_
          refine pw_iload r_12_mustBeApart_84 rfl ?_
          refine pw_iald r_12_mustBeApart_85 sh239 (by omega) (by omega) ?_
          refine pw_if_lt r_12_mustBeApart_86 (fun h86 => ?_) (fun h86 => ?_)
          · skip
            refine pw_const r_12_mustBeApart_117 ?_
            refine pw_zret r_12_mustBeApart_118 rfl (Or.inl rfl) (Nat.le_refl _) ⟨rfl, ?_⟩
            first | (have hh := hP (gF G 12 0 58); rw [sF_self] at hh; exact pe hh (b2i_t (Or.inl ⟨by assumption, by unfold whyM; rw [why_1 hnl]; decide⟩)).symm) | exact pe (hP _) (b2i_t (Or.inl ⟨by assumption, by assumption⟩)).symm | exact pe (hP _) (b2i_f (fun q => by rcases q with q | q; exact absurd (by assumption) q.2; exact absurd q.1 (by assumption))).symm | (have hh := hP (gF G 12 0 58); rw [sF_self] at hh; exact pe hh (b2i_t (Or.inr ⟨by assumption, by unfold ageM untM; omega⟩)).symm) | (have hh := hP (gF G 12 0 58); rw [sF_self] at hh; exact pe hh (b2i_f (fun q => by rcases q with q | q; exact absurd (by assumption) q.1; have q2 := q.2; unfold ageM untM at q2; omega)).symm)
          · skip
            refine pw_aload r_12_mustBeApart_89 rfl ?_
            refine pw_getR r_12_mustBeApart_90 fs_12_54 (by decide) ?_
            refine pw_iload r_12_mustBeApart_93 rfl ?_
            refine pw_iald r_12_mustBeApart_94 sh239 (by omega) (by omega) ?_
            refine pw_if_lt r_12_mustBeApart_95 (fun h95 => ?_) (fun h95 => ?_)
            · skip
              refine pw_const r_12_mustBeApart_117 ?_
              refine pw_zret r_12_mustBeApart_118 rfl (Or.inl rfl) (Nat.le_refl _) ⟨rfl, ?_⟩
              first | (have hh := hP (gF G 12 0 58); rw [sF_self] at hh; exact pe hh (b2i_t (Or.inl ⟨by assumption, by unfold whyM; rw [why_1 hnl]; decide⟩)).symm) | exact pe (hP _) (b2i_t (Or.inl ⟨by assumption, by assumption⟩)).symm | exact pe (hP _) (b2i_f (fun q => by rcases q with q | q; exact absurd (by assumption) q.2; exact absurd q.1 (by assumption))).symm | (have hh := hP (gF G 12 0 58); rw [sF_self] at hh; exact pe hh (b2i_t (Or.inr ⟨by assumption, by unfold ageM untM; omega⟩)).symm) | (have hh := hP (gF G 12 0 58); rw [sF_self] at hh; exact pe hh (b2i_f (fun q => by rcases q with q | q; exact absurd (by assumption) q.1; have q2 := q.2; unfold ageM untM at q2; omega)).symm)
            · skip
              refine pw_aload r_12_mustBeApart_98 rfl ?_
              refine pw_getR r_12_mustBeApart_99 fs_12_54 (by decide) ?_
              refine pw_iload r_12_mustBeApart_102 rfl ?_
              refine pw_iald r_12_mustBeApart_103 sh239 (by omega) (by omega) ?_
              refine pw_aload r_12_mustBeApart_104 rfl ?_
              refine pw_getR r_12_mustBeApart_105 fs_12_54 (by decide) ?_
              refine pw_iload r_12_mustBeApart_108 rfl ?_
              refine pw_iald r_12_mustBeApart_109 sh239 (by omega) (by omega) ?_
              refine pw_icmp_eq r_12_mustBeApart_110 (fun h110 => ?_) (fun h110 => ?_)
              · skip
                refine pw_const r_12_mustBeApart_117 ?_
                refine pw_zret r_12_mustBeApart_118 rfl (Or.inl rfl) (Nat.le_refl _) ⟨rfl, ?_⟩
                first | (have hh := hP (gF G 12 0 58); rw [sF_self] at hh; exact pe hh (b2i_t (Or.inl ⟨by assumption, by unfold whyM; rw [why_1 hnl]; decide⟩)).symm) | exact pe (hP _) (b2i_t (Or.inl ⟨by assumption, by assumption⟩)).symm | exact pe (hP _) (b2i_f (fun q => by rcases q with q | q; exact absurd (by assumption) q.2; exact absurd q.1 (by assumption))).symm | (have hh := hP (gF G 12 0 58); rw [sF_self] at hh; exact pe hh (b2i_t (Or.inr ⟨by assumption, by unfold ageM untM; omega⟩)).symm) | (have hh := hP (gF G 12 0 58); rw [sF_self] at hh; exact pe hh (b2i_f (fun q => by rcases q with q | q; exact absurd (by assumption) q.1; have q2 := q.2; unfold ageM untM at q2; omega)).symm)
              · skip
                refine pw_const r_12_mustBeApart_113 ?_
                refine pw_goto r_12_mustBeApart_114 ?_
                refine pw_zret r_12_mustBeApart_118 rfl (Or.inr rfl) (Nat.le_refl _) ⟨rfl, ?_⟩
                first | (have hh := hP (gF G 12 0 58); rw [sF_self] at hh; exact pe hh (b2i_t (Or.inl ⟨by assumption, by unfold whyM; rw [why_1 hnl]; decide⟩)).symm) | exact pe (hP _) (b2i_t (Or.inl ⟨by assumption, by assumption⟩)).symm | exact pe (hP _) (b2i_f (fun q => by rcases q with q | q; exact absurd (by assumption) q.2; exact absurd q.1 (by assumption))).symm | (have hh := hP (gF G 12 0 58); rw [sF_self] at hh; exact pe hh (b2i_t (Or.inr ⟨by assumption, by unfold ageM untM; omega⟩)).symm) | (have hh := hP (gF G 12 0 58); rw [sF_self] at hh; exact pe hh (b2i_f (fun q => by rcases q with q | q; exact absurd (by assumption) q.1; have q2 := q.2; unfold ageM untM at q2; omega)).symm)
        · skip
          refine pw_const r_12_mustBeApart_70 ?_
          refine pw_goto r_12_mustBeApart_71 ?_
          refine pw_istore (ls' := [some (vR 12 (0)), some (vI (a)), some (vI (b)), some (vI (1))]) r_12_mustBeApart_75 rfl rfl ?_
          refine pw_iload r_12_mustBeApart_76 rfl ?_
          refine pw_if_ne r_12_mustBeApart_77 (fun h77 => ?_) (fun h77 => absurd h77 (by decide))
          refine pw_const r_12_mustBeApart_113 ?_
          refine pw_goto r_12_mustBeApart_114 ?_
          refine pw_zret r_12_mustBeApart_118 rfl (Or.inr rfl) (Nat.le_refl _) ⟨rfl, ?_⟩
          first | (have hh := hP (gF G 12 0 58); rw [sF_self] at hh; exact pe hh (b2i_t (Or.inl ⟨by assumption, by unfold whyM; rw [why_1 hnl]; decide⟩)).symm) | exact pe (hP _) (b2i_t (Or.inl ⟨by assumption, by assumption⟩)).symm | exact pe (hP _) (b2i_f (fun q => by rcases q with q | q; exact absurd (by assumption) q.2; exact absurd q.1 (by assumption))).symm | (have hh := hP (gF G 12 0 58); rw [sF_self] at hh; exact pe hh (b2i_t (Or.inr ⟨by assumption, by unfold ageM untM; omega⟩)).symm) | (have hh := hP (gF G 12 0 58); rw [sF_self] at hh; exact pe hh (b2i_f (fun q => by rcases q with q | q; exact absurd (by assumption) q.1; have q2 := q.2; unfold ageM untM at q2; omega)).symm)
  · skip
    refine pw_aload r_12_mustBeApart_15 rfl ?_
    refine pw_iload r_12_mustBeApart_16 rfl ?_
    refine pw_iload r_12_mustBeApart_17 rfl ?_
    refine pw_callV (av := [vI (a), vI (b)]) (st := []) (ls0 := [some (vR 12 (0)), some (vI (a)), some (vI (b)), none, none, none, none, none]) r_12_mustBeApart_18 rfl rfl rfl (Nat.le_refl _) ?_
    refine sp_X12_why (ln := ln) (by first | assumption | exact hrw | omega) (by first | assumption | exact hrm | omega) (by first | assumption | exact ha | omega) (by first | assumption | exact hb | omega) ?_ ?_
    · skip
      intro hnl
      refine pw_if_eq r_12_mustBeApart_21 (fun h21 => absurd h21 (by decide)) (fun h21 => ?_)
      refine pw_const r_12_mustBeApart_24 ?_
      refine pw_goto r_12_mustBeApart_25 ?_
      refine pw_zret r_12_mustBeApart_29 rfl (Or.inr rfl) (Nat.le_refl _) ⟨rfl, ?_⟩
      first | (have hh := hP (gF G 12 0 58); rw [sF_self] at hh; exact pe hh (b2i_t (Or.inl ⟨by assumption, by unfold whyM; rw [why_1 hnl]; decide⟩)).symm) | exact pe (hP _) (b2i_t (Or.inl ⟨by assumption, by assumption⟩)).symm | exact pe (hP _) (b2i_f (fun q => by rcases q with q | q; exact absurd (by assumption) q.2; exact absurd q.1 (by assumption))).symm | (have hh := hP (gF G 12 0 58); rw [sF_self] at hh; exact pe hh (b2i_t (Or.inr ⟨by assumption, by unfold ageM untM; omega⟩)).symm) | (have hh := hP (gF G 12 0 58); rw [sF_self] at hh; exact pe hh (b2i_f (fun q => by rcases q with q | q; exact absurd (by assumption) q.1; have q2 := q.2; unfold ageM untM at q2; omega)).symm)
    · skip
      intro hln
      refine pw_if_eq r_12_mustBeApart_21 (fun h21 => ?_) (fun h21 => ?_)
      · skip
        refine pw_const r_12_mustBeApart_28 ?_
        refine pw_zret r_12_mustBeApart_29 rfl (Or.inl rfl) (Nat.le_refl _) ⟨rfl, ?_⟩
        first | (have hh := hP (gF G 12 0 58); rw [sF_self] at hh; exact pe hh (b2i_t (Or.inl ⟨by assumption, by unfold whyM; rw [why_1 hnl]; decide⟩)).symm) | exact pe (hP _) (b2i_t (Or.inl ⟨by assumption, by assumption⟩)).symm | exact pe (hP _) (b2i_f (fun q => by rcases q with q | q; exact absurd (by assumption) q.2; exact absurd q.1 (by assumption))).symm | (have hh := hP (gF G 12 0 58); rw [sF_self] at hh; exact pe hh (b2i_t (Or.inr ⟨by assumption, by unfold ageM untM; omega⟩)).symm) | (have hh := hP (gF G 12 0 58); rw [sF_self] at hh; exact pe hh (b2i_f (fun q => by rcases q with q | q; exact absurd (by assumption) q.1; have q2 := q.2; unfold ageM untM at q2; omega)).symm)
      · skip
        refine pw_const r_12_mustBeApart_24 ?_
        refine pw_goto r_12_mustBeApart_25 ?_
        refine pw_zret r_12_mustBeApart_29 rfl (Or.inr rfl) (Nat.le_refl _) ⟨rfl, ?_⟩
        first | (have hh := hP (gF G 12 0 58); rw [sF_self] at hh; exact pe hh (b2i_t (Or.inl ⟨by assumption, by unfold whyM; rw [why_1 hnl]; decide⟩)).symm) | exact pe (hP _) (b2i_t (Or.inl ⟨by assumption, by assumption⟩)).symm | exact pe (hP _) (b2i_f (fun q => by rcases q with q | q; exact absurd (by assumption) q.2; exact absurd q.1 (by assumption))).symm | (have hh := hP (gF G 12 0 58); rw [sF_self] at hh; exact pe hh (b2i_t (Or.inr ⟨by assumption, by unfold ageM untM; omega⟩)).symm) | (have hh := hP (gF G 12 0 58); rw [sF_self] at hh; exact pe hh (b2i_f (fun q => by rcases q with q | q; exact absurd (by assumption) q.1; have q2 := q.2; unfold ageM untM at q2; omega)).symm)
set_option maxRecDepth 10000 in
theorem sp_X11_same {l : Launch} {w : Wo} {d : Nat} {G : PH} {P : Option PV → PH → Prop} {a b k : Int} (hrw : 0 ≤ (gF G 5 0 0) ∧ (gF G 5 0 0) ≤ 100) (hrc : rowsC G) (h1 : ¬ ((0 ≤ a ∧ a < (gF G 5 0 0)) ∧ (0 ≤ b ∧ b < (gF G 5 0 0)) ∧ (gA G 47 0 (a)) ≠ (gA G 47 0 (b)) ∧ 0 ≤ k ∧ k ≤ 1) → P (some (vI (-1))) G) (h2 : ((0 ≤ a ∧ a < (gF G 5 0 0)) ∧ (0 ≤ b ∧ b < (gF G 5 0 0)) ∧ (gA G 47 0 (a)) ≠ (gA G 47 0 (b)) ∧ 0 ≤ k ∧ k ≤ 1) → P (some (vI (sameV k (whyC G a b) (whoC G a ∧ whoC G b)))) G) : PW l w M_X11_same (d + 4) 0 [some (vR 11 (0)), some (vI (a)), some (vI (b)), some (vI (k))] [] G P := by
  refine pw_aload r_11_same_0 rfl ?_
  refine pw_getR r_11_same_1 fs_11_4 (by decide) ?_
  refine pw_iload r_11_same_4 rfl ?_
  refine pw_iload r_11_same_5 rfl ?_
  refine pw_iload r_11_same_6 rfl ?_
  refine pw_callV (av := [vI (a), vI (b), vI (k)]) (st := []) (ls0 := [some (vR 5 (0)), some (vI (a)), some (vI (b)), some (vI (k)), none]) r_11_same_7 rfl rfl rfl (Nat.le_refl _) ?_
  refine sp_X5_tellSame (by first | assumption | exact hrw | omega) (by first | assumption | exact hrc | omega) ?_ ?_
  · skip
    intro q1
    refine pw_iret r_11_same_10 rfl (Nat.le_refl _) ⟨rfl, ?_⟩
    exact h1 q1
  · skip
    intro q1
    refine pw_iret r_11_same_10 rfl (Nat.le_refl _) ⟨rfl, ?_⟩
    exact h2 q1

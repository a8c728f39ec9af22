/-! The grammar of texts, as a relation: what a piece from a place on gives, and where it ends, or where its fault is. -/
abbrev Sem : Type := (Int → Int) → Int
abbrev PRes : Type := Int ⊕ (Int × Sem)
def sgn (b : Int → Int) (n a : Int) : Int := if a < n then b a else -1
def rkOf (c : Int) : Int := if c = 124 then 0 else if c = 38 then 1 else if c = 60 ∨ c = 61 ∨ c = 62 then 2 else if c = 43 ∨ c = 45 then 3 else if c = 42 ∨ c = 47 then 4 else -1
noncomputable def wk (c a b : Int) : Int := if c = 124 then b2i (a ≠ 0 ∨ b ≠ 0) else if c = 38 then b2i (a ≠ 0 ∧ b ≠ 0) else if c = 60 then b2i (a < b) else if c = 61 then b2i (a = b) else if c = 62 then b2i (b < a) else
  if c = 43 then wr (a + b) else if c = 45 then wr (a - b) else if c = 42 then wr (a * b) else if b = 0 then 0 else pDiv a b
def isDg (c : Int) : Prop := 48 ≤ c ∧ c ≤ 57
def dgN (b : Int → Int) (n a : Int) : Nat → Int
  | 0 => 0
  | m + 1 => dgN b n a m * 10 + sgn b n (a + m) - 48
def dgV (b : Int → Int) (n a m : Int) : Int := dgN b n a m.toNat
theorem dgV_0 (b : Int → Int) (n a : Int) : dgV b n a 0 = 0 := rfl
theorem dgV_s (b : Int → Int) (n a : Int) {m : Int} (h : 0 ≤ m) : dgV b n a (m + 1) = dgV b n a m * 10 + sgn b n (a + m) - 48 := by
  unfold dgV
  rw [show (m + 1).toNat = m.toNat + 1 by omega, dgN, Int.toNat_of_nonneg h]
def dgOk (b : Int → Int) (n a m : Int) : Prop := 0 ≤ m ∧ m ≤ 4 ∧ (∀ j, 0 ≤ j → j < m → isDg (sgn b n (a + j))) ∧ (m = 4 ∨ ¬ isDg (sgn b n (a + m)))
theorem dgOk_one {b : Int → Int} {n a m m1 : Int} (h : dgOk b n a m) (h1 : dgOk b n a m1) : m = m1 := by
  obtain ⟨a1, a2, a3, a4⟩ := h
  obtain ⟨c1, c2, c3, c4⟩ := h1
  rcases Int.lt_trichotomy m m1 with q | q | q
  · rcases a4 with e | e
    · omega
    · exact absurd (c3 m a1 q) e
  · exact q
  · rcases c4 with e | e
    · omega
    · exact absurd (a3 m1 c1 q) e
def nmIx (c : Int) : Int := if c = 107 then 0 else if c = 103 then 1 else if c = 121 then 2 else if c = 110 then 3 else if c = 97 then 4 else if c = 100 then 5 else if c = 98 then 6 else if c = 99 then 7 else if c = 116 then 8 else -1
def thenR (q : PRes) (res : PRes) (f : Int → Sem → Prop) : Prop := match q with
  | .inl z => res = .inl z
  | .inr (a, s) => f a s
def Ev (b : Int → Int) (n : Int) : Nat → Int → Int → Int → Option Sem → PRes → Prop
  | 0, _, _, _, _, _ => False
  | k + 1, r, o, a, none, res => (5 ≤ r ∧
      ((isDg (sgn b n a) ∧ ∃ m, dgOk b n a m ∧ res = .inr (a + m, fun _ => dgV b n a m)) ∨
      ((sgn b n a = 33 ∨ sgn b n a = 40) ∧ 8 ≤ o ∧ res = .inl a) ∨
      (sgn b n a = 33 ∧ o < 8 ∧ ∃ q, Ev b n k 5 (o + 1) (a + 1) none q ∧ thenR q res fun a1 s1 => res = .inr (a1, fun e => b2i (s1 e = 0))) ∨
      (sgn b n a = 40 ∧ o < 8 ∧ ∃ q, Ev b n k 0 (o + 1) (a + 1) none q ∧ thenR q res fun a1 s1 => (sgn b n a1 = 41 ∧ res = .inr (a1 + 1, s1)) ∨ (sgn b n a1 ≠ 41 ∧ res = .inl a1)) ∨
      (0 ≤ nmIx (sgn b n a) ∧ res = .inr (a + 1, fun e => e (nmIx (sgn b n a)))) ∨
      (¬ isDg (sgn b n a) ∧ sgn b n a ≠ 33 ∧ sgn b n a ≠ 40 ∧ nmIx (sgn b n a) < 0 ∧ res = .inl a))) ∨
    (r < 5 ∧ ∃ q, Ev b n k (r + 1) o a none q ∧ thenR q res fun a1 s1 => Ev b n k r o a1 (some s1) res)
  | k + 1, r, o, a, some s, res => (rkOf (sgn b n a) ≠ r ∧ res = .inr (a, s)) ∨
    (rkOf (sgn b n a) = r ∧ ∃ q, Ev b n k (r + 1) o (a + 1) none q ∧ thenR q res fun a1 s1 => (r = 2 ∧ res = .inr (a1, fun e => wk (sgn b n a) (s e) (s1 e))) ∨ (r ≠ 2 ∧ Ev b n k r o a1 (some fun e => wk (sgn b n a) (s e) (s1 e)) res))
theorem thenR_mono {q res : PRes} {f g : Int → Sem → Prop} (h : thenR q res f) (hf : ∀ a s, f a s → g a s) : thenR q res g := by
  rcases q with z | ⟨a, s⟩
  · exact h
  · exact hf a s h
theorem Ev_up {b : Int → Int} {n : Int} : ∀ {k : Nat} {r o a : Int} {m : Option Sem} {res : PRes}, Ev b n k r o a m res → Ev b n (k + 1) r o a m res
  | 0, _, _, _, _, _, h => h.elim
  | k + 1, r, o, a, none, res, h => by
    rcases h with ⟨h5, h⟩ | ⟨h5, q, hq, hr⟩
    · refine Or.inl ⟨h5, ?_⟩
      rcases h with h | h | ⟨h1, h2, q, hq, hr⟩ | ⟨h1, h2, q, hq, hr⟩ | h | h
      · exact Or.inl h
      · exact Or.inr (Or.inl h)
      · exact Or.inr (Or.inr (Or.inl ⟨h1, h2, q, Ev_up hq, hr⟩))
      · exact Or.inr (Or.inr (Or.inr (Or.inl ⟨h1, h2, q, Ev_up hq, hr⟩)))
      · exact Or.inr (Or.inr (Or.inr (Or.inr (Or.inl h))))
      · exact Or.inr (Or.inr (Or.inr (Or.inr (Or.inr h))))
    · exact Or.inr ⟨h5, q, Ev_up hq, thenR_mono hr fun a1 s1 h => Ev_up h⟩
  | k + 1, r, o, a, some s, res, h => by
    rcases h with h | ⟨h1, q, hq, hr⟩
    · exact Or.inl h
    · exact Or.inr ⟨h1, q, Ev_up hq, thenR_mono hr fun a1 s1 h => h.imp id fun h => ⟨h.1, Ev_up h.2⟩⟩
theorem Ev_le {b : Int → Int} {n : Int} {k k1 : Nat} {r o a : Int} {m : Option Sem} {res : PRes} (hk : k ≤ k1) (h : Ev b n k r o a m res) : Ev b n k1 r o a m res := by
  induction k1 with
  | zero => rw [Nat.le_zero.mp hk] at h; exact h
  | succ k1 ih =>
    rcases Nat.lt_or_ge k (k1 + 1) with q | q
    · exact Ev_up (ih (by omega))
    · rw [show k1 + 1 = k by omega]; exact h
def EvX (b : Int → Int) (n r o a : Int) (m : Option Sem) (res : PRes) : Prop := ∃ k, Ev b n k r o a m res
theorem Ev_det {b : Int → Int} {n : Int} : ∀ {k k1 : Nat} {r o a : Int} {m : Option Sem} {res res1 : PRes}, Ev b n k r o a m res → Ev b n k1 r o a m res1 → res = res1
  | 0, _, _, _, _, _, _, _, h, _ => h.elim
  | _ + 1, 0, _, _, _, _, _, _, _, h1 => h1.elim
  | k + 1, k1 + 1, r, o, a, none, res, res1, h, h1 => by
    have nd : ∀ c, isDg c → c ≠ 33 ∧ c ≠ 40 ∧ nmIx c < 0 := fun c hc => ⟨by unfold isDg at hc; omega, by unfold isDg at hc; omega, by
      unfold isDg at hc
      unfold nmIx
      rw [if_neg (by omega), if_neg (by omega), if_neg (by omega), if_neg (by omega), if_neg (by omega), if_neg (by omega), if_neg (by omega), if_neg (by omega), if_neg (by omega)]
      decide⟩
    have n33 : nmIx 33 = -1 := by decide
    have n40 : nmIx 40 = -1 := by decide
    rcases h with ⟨h5, h⟩ | ⟨h5, q, hq, hr⟩
    · rcases h1 with ⟨-, h1⟩ | ⟨h5', -⟩
      · rcases h with ⟨hd, m, hm, e⟩ | ⟨hc, ho, e⟩ | ⟨hc, ho, q, hq, hr⟩ | ⟨hc, ho, q, hq, hr⟩ | ⟨hc, e⟩ | ⟨hd, hc1, hc2, hc, e⟩
        · have n0 := nd _ hd
          rcases h1 with ⟨hd', m', hm', e'⟩ | ⟨hc', ho', e'⟩ | ⟨hc', ho', q', hq', hr'⟩ | ⟨hc', ho', q', hq', hr'⟩ | ⟨hc', e'⟩ | ⟨hd', hc1', hc2', hc', e'⟩
          · rw [e, e', dgOk_one hm hm']
          · omega
          · omega
          · omega
          · omega
          · exact absurd hd hd'
        · rcases h1 with ⟨hd', m', hm', e'⟩ | ⟨hc', ho', e'⟩ | ⟨hc', ho', q', hq', hr'⟩ | ⟨hc', ho', q', hq', hr'⟩ | ⟨hc', e'⟩ | ⟨hd', hc1', hc2', hc', e'⟩
          · have n0 := nd _ hd'; omega
          · rw [e, e']
          · omega
          · omega
          · rcases hc with hc | hc <;> rw [hc] at hc' <;> omega
          · omega
        · rcases h1 with ⟨hd', m', hm', e'⟩ | ⟨hc', ho', e'⟩ | ⟨hc', ho', q', hq', hr'⟩ | ⟨hc', ho', q', hq', hr'⟩ | ⟨hc', e'⟩ | ⟨hd', hc1', hc2', hc', e'⟩
          · have n0 := nd _ hd'; omega
          · omega
          · have e1 := Ev_det hq hq'
            subst e1
            rcases q with z | ⟨a1, s1⟩
            · exact (show res = .inl z from hr).trans (show res1 = .inl z from hr').symm
            · exact (show res = _ from hr).trans (show res1 = _ from hr').symm
          · omega
          · rw [hc] at hc'; omega
          · omega
        · rcases h1 with ⟨hd', m', hm', e'⟩ | ⟨hc', ho', e'⟩ | ⟨hc', ho', q', hq', hr'⟩ | ⟨hc', ho', q', hq', hr'⟩ | ⟨hc', e'⟩ | ⟨hd', hc1', hc2', hc', e'⟩
          · have n0 := nd _ hd'; omega
          · omega
          · omega
          · have e1 := Ev_det hq hq'
            subst e1
            rcases q with z | ⟨a1, s1⟩
            · exact (show res = .inl z from hr).trans (show res1 = .inl z from hr').symm
            · rcases (show (sgn b n a1 = 41 ∧ res = .inr (a1 + 1, s1)) ∨ (sgn b n a1 ≠ 41 ∧ res = .inl a1) from hr) with ⟨x1, x2⟩ | ⟨x1, x2⟩ <;>
              rcases (show (sgn b n a1 = 41 ∧ res1 = .inr (a1 + 1, s1)) ∨ (sgn b n a1 ≠ 41 ∧ res1 = .inl a1) from hr') with ⟨y1, y2⟩ | ⟨y1, y2⟩
              · rw [x2, y2]
              · exact absurd x1 y1
              · exact absurd y1 x1
              · rw [x2, y2]
          · rw [hc] at hc'; omega
          · omega
        · rcases h1 with ⟨hd', m', hm', e'⟩ | ⟨hc', ho', e'⟩ | ⟨hc', ho', q', hq', hr'⟩ | ⟨hc', ho', q', hq', hr'⟩ | ⟨hc', e'⟩ | ⟨hd', hc1', hc2', hc', e'⟩
          · have n0 := nd _ hd'; omega
          · rcases hc' with hc' | hc' <;> rw [hc'] at hc <;> omega
          · rw [hc'] at hc; omega
          · rw [hc'] at hc; omega
          · rw [e, e']
          · omega
        · rcases h1 with ⟨hd', m', hm', e'⟩ | ⟨hc', ho', e'⟩ | ⟨hc', ho', q', hq', hr'⟩ | ⟨hc', ho', q', hq', hr'⟩ | ⟨hc', e'⟩ | ⟨hd', hc1', hc2', hc', e'⟩
          · exact absurd hd' hd
          · omega
          · omega
          · omega
          · omega
          · rw [e, e']
      · omega
    · rcases h1 with ⟨h5', -⟩ | ⟨-, q', hq', hr'⟩
      · omega
      · have e1 := Ev_det hq hq'
        subst e1
        rcases q with z | ⟨a1, s1⟩
        · exact (show res = .inl z from hr).trans (show res1 = .inl z from hr').symm
        · exact Ev_det (show Ev b n k r o a1 (some s1) res from hr) (show Ev b n k1 r o a1 (some s1) res1 from hr')
  | k + 1, k1 + 1, r, o, a, some s, res, res1, h, h1 => by
    rcases h with ⟨h2, e⟩ | ⟨h2, q, hq, hr⟩
    · rcases h1 with ⟨h2', e'⟩ | ⟨h2', -⟩
      · rw [e, e']
      · exact absurd h2' h2
    · rcases h1 with ⟨h2', e'⟩ | ⟨h2', q', hq', hr'⟩
      · exact absurd h2 h2'
      · have e1 := Ev_det hq hq'
        subst e1
        rcases q with z | ⟨a1, s1⟩
        · exact (show res = .inl z from hr).trans (show res1 = .inl z from hr').symm
        · rcases (show (r = 2 ∧ res = .inr (a1, fun e => wk (sgn b n a) (s e) (s1 e))) ∨ (r ≠ 2 ∧ Ev b n k r o a1 (some fun e => wk (sgn b n a) (s e) (s1 e)) res) from hr) with ⟨x1, x2⟩ | ⟨x1, x2⟩ <;>
          rcases (show (r = 2 ∧ res1 = .inr (a1, fun e => wk (sgn b n a) (s e) (s1 e))) ∨ (r ≠ 2 ∧ Ev b n k1 r o a1 (some fun e => wk (sgn b n a) (s e) (s1 e)) res1) from hr') with ⟨y1, y2⟩ | ⟨y1, y2⟩
          · rw [x2, y2]
          · exact absurd x1 y1
          · exact absurd y1 x1
          · exact Ev_det x2 y2
theorem EvX_det {b : Int → Int} {n r o a : Int} {m : Option Sem} {res res1 : PRes} (h : EvX b n r o a m res) (h1 : EvX b n r o a m res1) : res = res1 := by
  obtain ⟨k, h⟩ := h
  obtain ⟨k1, h1⟩ := h1
  exact Ev_det h h1
section EVX
variable {b : Int → Int} {n r o a a1 f : Int} {s s1 : Sem} {res : PRes}
theorem EvX_dig {m : Int} (h : isDg (sgn b n a)) (hm : dgOk b n a m) : EvX b n 5 o a none (.inr (a + m, fun _ => dgV b n a m)) := ⟨1, Or.inl ⟨Int.le_refl _, Or.inl ⟨h, m, hm, rfl⟩⟩⟩
theorem EvX_deep (h : sgn b n a = 33 ∨ sgn b n a = 40) (ho : 8 ≤ o) : EvX b n 5 o a none (.inl a) := ⟨1, Or.inl ⟨Int.le_refl _, Or.inr (Or.inl ⟨h, ho, rfl⟩)⟩⟩
theorem EvX_not (h : sgn b n a = 33) (ho : o < 8) (h1 : EvX b n 5 (o + 1) (a + 1) none (.inr (a1, s1))) : EvX b n 5 o a none (.inr (a1, fun e => b2i (s1 e = 0))) := by
  obtain ⟨k, h1⟩ := h1
  exact ⟨k + 1, Or.inl ⟨Int.le_refl _, Or.inr (Or.inr (Or.inl ⟨h, ho, _, h1, rfl⟩))⟩⟩
theorem EvX_notF (h : sgn b n a = 33) (ho : o < 8) (h1 : EvX b n 5 (o + 1) (a + 1) none (.inl f)) : EvX b n 5 o a none (.inl f) := by
  obtain ⟨k, h1⟩ := h1
  exact ⟨k + 1, Or.inl ⟨Int.le_refl _, Or.inr (Or.inr (Or.inl ⟨h, ho, _, h1, rfl⟩))⟩⟩
theorem EvX_par (h : sgn b n a = 40) (ho : o < 8) (h1 : EvX b n 0 (o + 1) (a + 1) none (.inr (a1, s1))) (h2 : sgn b n a1 = 41) : EvX b n 5 o a none (.inr (a1 + 1, s1)) := by
  obtain ⟨k, h1⟩ := h1
  exact ⟨k + 1, Or.inl ⟨Int.le_refl _, Or.inr (Or.inr (Or.inr (Or.inl ⟨h, ho, _, h1, Or.inl ⟨h2, rfl⟩⟩)))⟩⟩
theorem EvX_parN (h : sgn b n a = 40) (ho : o < 8) (h1 : EvX b n 0 (o + 1) (a + 1) none (.inr (a1, s1))) (h2 : sgn b n a1 ≠ 41) : EvX b n 5 o a none (.inl a1) := by
  obtain ⟨k, h1⟩ := h1
  exact ⟨k + 1, Or.inl ⟨Int.le_refl _, Or.inr (Or.inr (Or.inr (Or.inl ⟨h, ho, _, h1, Or.inr ⟨h2, rfl⟩⟩)))⟩⟩
theorem EvX_parF (h : sgn b n a = 40) (ho : o < 8) (h1 : EvX b n 0 (o + 1) (a + 1) none (.inl f)) : EvX b n 5 o a none (.inl f) := by
  obtain ⟨k, h1⟩ := h1
  exact ⟨k + 1, Or.inl ⟨Int.le_refl _, Or.inr (Or.inr (Or.inr (Or.inl ⟨h, ho, _, h1, rfl⟩)))⟩⟩
theorem EvX_name (h : 0 ≤ nmIx (sgn b n a)) : EvX b n 5 o a none (.inr (a + 1, fun e => e (nmIx (sgn b n a)))) := ⟨1, Or.inl ⟨Int.le_refl _, Or.inr (Or.inr (Or.inr (Or.inr (Or.inl ⟨h, rfl⟩))))⟩⟩
theorem EvX_bad (h1 : ¬ isDg (sgn b n a)) (h2 : sgn b n a ≠ 33) (h3 : sgn b n a ≠ 40) (h4 : nmIx (sgn b n a) < 0) : EvX b n 5 o a none (.inl a) := ⟨1, Or.inl ⟨Int.le_refl _, Or.inr (Or.inr (Or.inr (Or.inr (Or.inr ⟨h1, h2, h3, h4, rfl⟩))))⟩⟩
theorem EvX_lev (h5 : r < 5) (h1 : EvX b n (r + 1) o a none (.inr (a1, s1))) (h2 : EvX b n r o a1 (some s1) res) : EvX b n r o a none res := by
  obtain ⟨k, h1⟩ := h1
  obtain ⟨k1, h2⟩ := h2
  exact ⟨max k k1 + 1, Or.inr ⟨h5, _, Ev_le (by omega) h1, show Ev b n (max k k1) r o a1 (some s1) res from Ev_le (by omega) h2⟩⟩
theorem EvX_levF (h5 : r < 5) (h1 : EvX b n (r + 1) o a none (.inl f)) : EvX b n r o a none (.inl f) := by
  obtain ⟨k, h1⟩ := h1
  exact ⟨k + 1, Or.inr ⟨h5, _, h1, rfl⟩⟩
theorem EvX_end (h : rkOf (sgn b n a) ≠ r) : EvX b n r o a (some s) (.inr (a, s)) := ⟨1, Or.inl ⟨h, rfl⟩⟩
theorem EvX_more (h : rkOf (sgn b n a) = r) (h2 : r ≠ 2) (h1 : EvX b n (r + 1) o (a + 1) none (.inr (a1, s1))) (h3 : EvX b n r o a1 (some fun e => wk (sgn b n a) (s e) (s1 e)) res) : EvX b n r o a (some s) res := by
  obtain ⟨k, h1⟩ := h1
  obtain ⟨k1, h3⟩ := h3
  exact ⟨max k k1 + 1, Or.inr ⟨h, _, Ev_le (by omega) h1, show _ ∨ _ from Or.inr ⟨h2, Ev_le (by omega) h3⟩⟩⟩
theorem EvX_cmp (h : rkOf (sgn b n a) = 2) (h1 : EvX b n 3 o (a + 1) none (.inr (a1, s1))) : EvX b n 2 o a (some s) (.inr (a1, fun e => wk (sgn b n a) (s e) (s1 e))) := by
  obtain ⟨k, h1⟩ := h1
  exact ⟨k + 1, Or.inr ⟨h, _, h1, show _ ∨ _ from Or.inl ⟨rfl, rfl⟩⟩⟩
theorem EvX_moreF (h : rkOf (sgn b n a) = r) (h1 : EvX b n (r + 1) o (a + 1) none (.inl f)) : EvX b n r o a (some s) (.inl f) := by
  obtain ⟨k, h1⟩ := h1
  exact ⟨k + 1, Or.inr ⟨h, _, h1, rfl⟩⟩
end EVX
/-! lines -/
abbrev Ln : Type := Option Sem × Sem
abbrev LRes : Type := Int ⊕ List Ln
def tailR (b : Int → Int) (n a : Int) (z : Ln) (more : Int → LRes → Prop) (res : LRes) : Prop :=
  (sgn b n a = 59 ∧ ∃ r1, more (a + 1) r1 ∧ res = (match r1 with
    | .inl f => .inl f
    | .inr L => .inr (z :: L))) ∨ (sgn b n a ≠ 59 ∧ ((a < n ∧ res = .inl a) ∨ (n ≤ a ∧ res = .inr [z])))
def EvL (b : Int → Int) (n : Int) : Nat → Int → LRes → Prop
  | 0, _, _ => False
  | k + 1, a, res => ∃ q, EvX b n 0 0 a none q ∧ (match q with
    | .inl f => res = .inl f
    | .inr (a1, s1) => (sgn b n a1 = 63 ∧ ∃ q2, EvX b n 0 0 (a1 + 1) none q2 ∧ (match q2 with
        | .inl f => res = .inl f
        | .inr (a2, s2) => tailR b n a2 (some s1, s2) (EvL b n k) res)) ∨ (sgn b n a1 ≠ 63 ∧ tailR b n a1 (none, s1) (EvL b n k) res))
theorem tailR_det {b : Int → Int} {n a : Int} {z : Ln} {m1 m2 : Int → LRes → Prop} {r1 r2 : LRes} (hm : ∀ a x y, m1 a x → m2 a y → x = y) (h1 : tailR b n a z m1 r1) (h2 : tailR b n a z m2 r2) : r1 = r2 := by
  rcases h1 with ⟨c1, x, hx, e1⟩ | ⟨c1, h1⟩ <;> rcases h2 with ⟨c2, y, hy, e2⟩ | ⟨c2, h2⟩
  · rw [e1, e2, hm _ _ _ hx hy]
  · exact absurd c1 c2
  · exact absurd c2 c1
  · rcases h1 with ⟨p1, e1⟩ | ⟨p1, e1⟩ <;> rcases h2 with ⟨p2, e2⟩ | ⟨p2, e2⟩
    · rw [e1, e2]
    · omega
    · omega
    · rw [e1, e2]
theorem EvL_det {b : Int → Int} {n : Int} : ∀ {k k1 : Nat} {a : Int} {res res1 : LRes}, EvL b n k a res → EvL b n k1 a res1 → res = res1
  | 0, _, _, _, _, h, _ => h.elim
  | _ + 1, 0, _, _, _, _, h => h.elim
  | k + 1, k1 + 1, a, res, res1, h, h1 => by
    obtain ⟨q, hq, h⟩ := h
    obtain ⟨q', hq', h1⟩ := h1
    have e := EvX_det hq hq'
    subst e
    rcases q with z | ⟨a1, s1⟩
    · exact (show res = .inl z from h).trans (show res1 = .inl z from h1).symm
    · rcases h with ⟨c1, q2, hq2, h⟩ | ⟨c1, h⟩ <;> rcases h1 with ⟨c2, q3, hq3, h1⟩ | ⟨c2, h1⟩
      · have e := EvX_det hq2 hq3
        subst e
        rcases q2 with z | ⟨a2, s2⟩
        · exact (show res = .inl z from h).trans (show res1 = .inl z from h1).symm
        · exact tailR_det (fun a x y hx hy => EvL_det hx hy) h h1
      · exact absurd c1 c2
      · exact absurd c2 c1
      · exact tailR_det (fun a x y hx hy => EvL_det hx hy) h h1
def EvT (b : Int → Int) (n a : Int) (res : LRes) : Prop := ∃ k, EvL b n k a res
theorem EvT_det {b : Int → Int} {n a : Int} {r1 r2 : LRes} (h1 : EvT b n a r1) (h2 : EvT b n a r2) : r1 = r2 := by
  obtain ⟨k, h1⟩ := h1
  obtain ⟨k1, h2⟩ := h2
  exact EvL_det h1 h2
/-- which line gives, and what -/
noncomputable def holds (e : Int → Int) (z : Ln) : Prop := match z.1 with
  | none => True
  | some s => s e ≠ 0
noncomputable def pick (e : Int → Int) : List Ln → Int → Int × Int
  | [], _ => (-1, 0)
  | z :: L, i => @ite _ (holds e z) (Classical.propDecidable _) (i, z.2 e) (pick e L (i + 1))
theorem pick_app (e : Int → Int) (z : Ln) : ∀ (L : List Ln) (i : Int), 0 ≤ i → pick e (L ++ [z]) i = if (pick e L i).1 < 0 then @ite _ (holds e z) (Classical.propDecidable _) (i + L.length, z.2 e) (-1, 0) else pick e L i
  | [], i, _ => by
    show pick e [z] i = if (-1 : Int) < 0 then _ else _
    rw [if_pos (by decide)]
    unfold pick
    unfold pick
    by_cases h : holds e z
    · rw [if_pos h, if_pos h, List.length_nil]; simp
    · rw [if_neg h, if_neg h]
  | y :: L, i, hi => by
    show @ite _ (holds e y) (Classical.propDecidable _) (i, y.2 e) (pick e (L ++ [z]) (i + 1)) = if (@ite _ (holds e y) (Classical.propDecidable _) (i, y.2 e) (pick e L (i + 1))).1 < 0 then _ else @ite _ (holds e y) (Classical.propDecidable _) (i, y.2 e) (pick e L (i + 1))
    by_cases h : holds e y
    · rw [if_pos h, if_pos h, if_neg (by show ¬ i < 0; omega)]
    · rw [if_neg h, if_neg h, pick_app e z L (i + 1) (by omega), List.length_cons]
      rw [show i + 1 + (L.length : Int) = i + ((L.length + 1 : Nat) : Int) by omega]
def textOk (b : Int → Int) (n : Int) : Prop := ∃ L, EvT b n 0 (.inr L)

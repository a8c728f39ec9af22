def lowB (y : Nat) : Nat := if y % 2 = 1 then 0 else if y % 4 = 2 then 1 else if y % 8 = 4 then 2 else if y % 16 = 8 then 3 else if y % 32 = 16 then 4 else 5
def saR (i : Int) (s t : SSt) : Prop := (∀ j, 0 ≤ j → j < i → t.1 j = s.1 j ∧ t.2.1 j = s.2.1 j) ∧ t.2.2.1 = s.2.2.1 ∧ t.2.2.2.1 = s.2.2.2.1 ∧ (0 ≤ s.2.2.2.1 ∧ s.2.2.2.1 ≤ 6) ∧ ∀ j, 0 ≤ j → j < s.2.2.2.1 → t.2.2.2.2.1 j = s.2.2.2.2.1 j ∧ t.2.2.2.2.2 j = s.2.2.2.2.2 j
section SAK
variable {FT : Int → Prop} {PP : Int → Int} {DY : Int → Int → Int} {tn : Int}
theorem pc_nn {a : Int} : 0 ≤ pcF a := pc_in.1
theorem sai_sim : ∀ {k : Nat} {i r f m : Int} {s t : SSt}, 0 ≤ i ∧ i + pcF r ≤ 6 → 0 ≤ r ∧ r < 64 → saR i s t → saR i (saiN FT PP DY tn k i r f m s) (saiN FT PP DY tn k i r f m t)
  | 0, _, _, _, _, _, _, _, _, h => h
  | k + 1, i, r, f, m, s, t, hi, hr, h => by
    have hpn := pc_nn (a := r)
    by_cases e : s.2.2.1 ≤ m
    · rw [sai_stop e, sai_stop (by rw [h.2.1]; exact e)]; exact h
    by_cases z : r = 0
    · rw [sai_keep (by omega) z, sai_keep (by rw [h.2.1]; omega) z]
      refine ⟨h.1, rfl, rfl, ⟨hi.1, by show i ≤ 6; omega⟩, fun j j0 j1 => ?_⟩
      show cpF t.1 t.2.2.2.2.1 i j = cpF s.1 s.2.2.2.2.1 i j ∧ cpF t.2.1 t.2.2.2.2.2 i j = cpF s.2.1 s.2.2.2.2.2 i j
      replace j1 : j < i := j1
      rw [cpF_in j0 j1, cpF_in j0 j1, cpF_in j0 j1, cpF_in j0 j1]
      exact h.1 j j0 j1
    · rw [sai_loop (by omega) z, sai_loop (by rw [h.2.1]; omega) z]
      refine iter_sim (p := fun s t => saR i s t) (by omega) h (fun j s t j0 j1 hst => ?_)
      by_cases c : 1 ≤ j ∧ pAnd j r = j ∧ FT j
      · rw [sai_t c, sai_t c]
        have hs := sub_set (a := j) (b := r) ⟨by omega, by omega⟩ hr c.2.1
        have hp := pc_pos (a := j) ⟨by omega, by omega⟩
        have h9 := sai_sim (k := k) (i := i + 1) (r := r - j) (f := DY f j + tn) (m := m + PP j * DY f j) (s := (upA s.1 i j, upA s.2.1 i (DY f j), s.2.2)) (t := (upA t.1 i j, upA t.2.1 i (DY f j), t.2.2)) ⟨by omega, by omega⟩ ⟨by omega, by omega⟩ ⟨fun y y0 y1 => by
          show upA t.1 i j y = upA s.1 i j y ∧ upA t.2.1 i (DY f j) y = upA s.2.1 i (DY f j) y
          by_cases q : y = i
          · rw [q, upA_same, upA_same, upA_same, upA_same]; exact ⟨rfl, rfl⟩
          · rw [upA_ne q, upA_ne q, upA_ne q, upA_ne q]; exact hst.1 y y0 (by omega), hst.2⟩
        exact ⟨fun y y0 y1 => h9.1 y y0 (by omega), h9.2⟩
      · rw [sai_f c, sai_f c]; exact hst
theorem iter_hit {α : Type} {f : Int → α → α} {p : α → Prop} {n x : Int} {s : α} (h0 : 0 ≤ x ∧ x < n) (hx : ∀ s, p (f x s)) (hp : ∀ i s, p s → p (f i s)) : p (iterI f n s) := by
  have key := nat_ind (p := fun m => p (iterI f (x + 1 + m) s)) (by
    show p (iterI f (x + 1 + 0) s)
    rw [show x + 1 + 0 = x + 1 by omega, iter_s _ h0.1]; exact hx _) (fun m hm ih => by
    show p (iterI f (x + 1 + (m + 1)) s)
    rw [show x + 1 + (m + 1) = x + 1 + m + 1 by omega, iter_s _ (by omega)]; exact hp _ _ ih) (n - x - 1) (by omega)
  rw [show x + 1 + (n - x - 1) = n by omega] at key
  exact key
theorem sai_le : ∀ {k : Nat} {i r f m : Int} {s : SSt}, (saiN FT PP DY tn k i r f m s).2.2.1 ≤ s.2.2.1
  | 0, _, _, _, _, _ => Int.le_refl _
  | k + 1, i, r, f, m, s => by
    by_cases e : s.2.2.1 ≤ m
    · rw [sai_stop e]; exact Int.le_refl _
    by_cases z : r = 0
    · rw [sai_keep (by omega) z]; show m ≤ s.2.2.1; omega
    · rw [sai_loop (by omega) z]
      by_cases q : 0 ≤ r + 1
      · refine iter_inv (p := fun t : SSt => t.2.2.1 ≤ s.2.2.1) q (Int.le_refl _) (fun j t _ _ ht => ?_)
        by_cases c : 1 ≤ j ∧ pAnd j r = j ∧ FT j
        · rw [sai_t c]
          exact Int.le_trans sai_le ht
        · rw [sai_f c]; exact ht
      · unfold iterI
        rw [show (r + 1).toNat = 0 by omega]
        exact Int.le_refl _
theorem sai_hit {n : Int} (hn : 0 ≤ n ∧ n ≤ 6) (hF : ∀ i, 0 ≤ i → i < n → FT (pShl 1 i)) (hP : ∀ j, 1 ≤ j → j < pShl 1 n → 0 ≤ PP j ∧ PP j ≤ 1188) (hD : ∀ f j, f ≤ DY f j ∧ DY f j ≤ max f 762) (ht : 1 ≤ tn ∧ tn ≤ 30) : ∀ {k : Nat} {i r f m : Int} {s : SSt}, (k : Int) + i = 7 → 0 ≤ i ∧ i + pcF r ≤ 6 → 0 ≤ r ∧ r < pShl 1 n → 0 ≤ f ∧ f ≤ 762 + 30 * i → 0 ≤ m ∧ m ≤ 1200000 * i → (saiN FT PP DY tn k i r f m s).2.2.1 < 1000000000
  | 0, i, r, _, _, _, hk, hi, _, _, _ => by have := pc_nn (a := r); omega
  | k + 1, i, r, f, m, s, hk, hi, hr, hf, hm => by
    have hpn := pc_nn (a := r)
    have h64 := (shl_64 hn).1
    by_cases e : s.2.2.1 ≤ m
    · rw [sai_stop e]; omega
    by_cases z : r = 0
    · rw [sai_keep (by omega) z]; show m < 1000000000; omega
    · rw [sai_loop (by omega) z]
      have hbit : ∃ b : Int, 0 ≤ b ∧ b < n ∧ pAnd (pShl 1 b) r = pShl 1 b ∧ 1 ≤ pShl 1 b ∧ pShl 1 b ≤ r := by
        have key : ∀ y : Nat, y < 64 → ∀ n : Nat, n < 7 → (y ≠ 0 ∧ (y : Int) < pShl 1 n) → lowB y < n ∧ pAnd (pShl 1 (lowB y)) y = pShl 1 (lowB y) ∧ 1 ≤ pShl 1 (lowB y) ∧ pShl 1 (lowB y) ≤ y := by decide +kernel
        obtain ⟨b0, b1⟩ := key r.toNat (by omega) n.toNat (by omega) ⟨by omega, by rw [Int.toNat_of_nonneg hr.1, Int.toNat_of_nonneg hn.1]; exact hr.2⟩
        rw [Int.toNat_of_nonneg hr.1] at b1
        exact ⟨lowB r.toNat, by omega, by omega, b1⟩
      obtain ⟨b, b0, b1, b2, b3, b4⟩ := hbit
      refine iter_hit (p := fun t : SSt => t.2.2.1 < 1000000000) (x := pShl 1 b) ⟨by omega, by omega⟩ (fun t => ?_) (fun j t ht => ?_)
      · have hs := sub_set (a := pShl 1 b) (b := r) ⟨by omega, by omega⟩ ⟨hr.1, by omega⟩ b2
        have hp := pc_pos (a := pShl 1 b) ⟨by omega, by omega⟩
        have hd := hD f (pShl 1 b)
        have hpp := hP (pShl 1 b) b3 (by omega)
        have hm9 := mulb (a := PP (pShl 1 b)) (b := DY f (pShl 1 b)) hpp ⟨by omega, by omega⟩
        rw [sai_t ⟨b3, b2, hF b b0 b1⟩]
        exact sai_hit hn hF hP hD ht (k := k) (by omega) ⟨by omega, by omega⟩ ⟨by omega, by omega⟩ ⟨by omega, by omega⟩ ⟨by omega, by omega⟩
      · by_cases c : 1 ≤ j ∧ pAnd j r = j ∧ FT j
        · rw [sai_t c]
          exact Int.lt_of_le_of_lt sai_le ht
        · rw [sai_f c]; exact ht
end SAK
theorem sb_one {w : Int → Int} {i n : Int} (hi : 0 ≤ i) (hn : i < n ∧ n ≤ 6) : sbI w (pShl 1 i) n = w i := by
  have hb : ∀ j, 0 ≤ j → j < 7 → (bt (pShl 1 i) j ↔ j = i) := by
    have key : ∀ a : Nat, a < 7 → ∀ b : Nat, b < 7 → (pAnd (pShr (pShl 1 a) b) 1 ≠ 0 ↔ b = a) := by decide +kernel
    intro j j0 j1
    have := key i.toNat (by omega) j.toNat (by omega)
    rw [Int.toNat_of_nonneg hi, Int.toNat_of_nonneg j0] at this
    unfold bt
    rw [this]
    omega
  have h0 : ∀ m, 0 ≤ m → m ≤ i → sbI w (pShl 1 i) m = 0 := nat_ind (p := fun m => m ≤ i → sbI w (pShl 1 i) m = 0) (fun _ => rfl) (fun m hm ih h => by
    rw [sb_f hm (fun q => by have := (hb m hm (by omega)).mp q; omega)]
    exact ih (by omega))
  have h1 : sbI w (pShl 1 i) (i + 1) = w i := by
    rw [sb_t hi ((hb i hi (by omega)).mpr rfl), h0 i hi (Int.le_refl _)]; omega
  have key := nat_ind (p := fun m => i + 1 + m ≤ 6 → sbI w (pShl 1 i) (i + 1 + m) = w i) (fun _ => by rw [show i + 1 + 0 = i + 1 by omega]; exact h1) (fun m hm ih h => by
    rw [show i + 1 + (m + 1) = i + 1 + m + 1 by omega, sb_f (by omega) (fun q => by have := (hb (i + 1 + m) (by omega) (by omega)).mp q; omega)]
    exact ih (by omega)) (n - i - 1) (by omega) (by omega)
  rw [show i + 1 + (n - i - 1) = n by omega] at key
  exact key
theorem fg_eq {X : PH} (iL : ILand X X) {c c1 r r1 : Int} (hc : 0 ≤ c ∧ c < (gF X 2 0 2)) (e : c1 = c) (h1 : fgC X c r) (h2 : fgM X c1 r1) : r1 = r ∧ r ≤ 162 := by
  obtain ⟨D1, a1, a2, a3, a4⟩ := h1
  obtain ⟨D2, b1, b2, b3⟩ := h2
  have h := far_pair iL hc e (by decide) (by decide) a1 a2 b1 (t := 16)
  omega
theorem fg_nm {X : PH} (iL : ILand X X) {c c1 r : Int} (hc : 0 ≤ c ∧ c < (gF X 2 0 2)) (e : c1 = c) (h1 : fgC X c r) (h2 : nfM X c1) : False := by
  obtain ⟨D1, a1, a2, a3, a4⟩ := h1
  obtain ⟨D2, b1, b2⟩ := h2
  have h := far_pair iL hc e (by decide) (by decide) a1 a2 b1 (t := 16)
  omega
theorem nf_fm {X : PH} (iL : ILand X X) {c c1 r1 : Int} (hc : 0 ≤ c ∧ c < (gF X 2 0 2)) (e : c1 = c) (h1 : nfC X c) (h2 : fgM X c1 r1) : False := by
  obtain ⟨D1, a1, a2, a3⟩ := h1
  obtain ⟨D2, b1, b2, b3⟩ := h2
  have h := far_pair iL hc e (by decide) (by decide) a1 a2 b1 (t := 16)
  omega

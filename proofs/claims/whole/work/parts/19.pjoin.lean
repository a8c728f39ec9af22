/-- what is known of one person -/
theorem pf {np : Nat} {q : Int} {X Y : PH} (iP : IPers np q X Y) (p : Int) : (¬ (0 ≤ p ∧ p < (gF X 1 0 1)) ∨ ((0 ≤ p ∧ p < (gF X 1 0 1)) ∧ (gF X 3 (p) 0) = p ∧ ((gA Y 204 0 (p)) = (gF X 3 (p) 1) ∧ 1 ≤ (gF X 3 (p) 1) ∧ (gF X 3 (p) 1) ≤ 7) ∧ ((gA Y 205 0 (p)) = (gF X 3 (p) 2) ∧ 0 ≤ (gF X 3 (p) 2) ∧ (gF X 3 (p) 2) ≤ 1) ∧ ((gA Y 208 0 (p)) = (gF X 3 (p) 3) ∧ 0 ≤ (gF X 3 (p) 3) ∧ (gF X 3 (p) 3) ≤ 99) ∧ (gA Y 209 0 (p)) = (gF X 3 (p) 4) ∧ ((gA Y 212 0 (p)) = (gF X 3 (p) 5) ∧ 0 ≤ (gF X 3 (p) 5) ∧ (gF X 3 (p) 5) ≤ (gF X 1 0 2)) ∧ ((gA Y 210 0 (p)) = (gF X 3 (p) 6) ∧ 0 ≤ (gF X 3 (p) 6) ∧ (gF X 3 (p) 6) ≤ 10) ∧ ((gA Y 211 0 (p)) = (gF X 3 (p) 7) ∧ 0 ≤ (gF X 3 (p) 7) ∧ (gF X 3 (p) 7) ≤ (gF X 1 0 2)) ∧ (gA Y 206 0 (p)) = (gF X 3 (p) 8) ∧ ((gA Y 213 0 (p)) = (gF X 3 (p) 9) ∧ 0 ≤ (gF X 3 (p) 9) ∧ (gF X 3 (p) 9) ≤ (gF X 1 0 2)) ∧ (((gF X 3 (p) 8) = 0 ∧ (gA Y 207 0 (p)) = (gF X 3 (p) 10) ∧ 0 ≤ (gF X 3 (p) 10) ∧ (gF X 3 (p) 10) < (gF X 2 0 2) ∧ (gF X 3 (p) 11) = -1) ∨ ((gF X 3 (p) 8) = 1 ∧ (gA Y 207 0 (p)) = (gF X 3 (p) 10) ∧ ((0 ≤ (gF X 3 (p) 10) ∧ (gF X 3 (p) 10) < (gF X 2 0 2)) ∨ (gF X 3 (p) 10) = 16 ∨ (gF X 3 (p) 10) = 17) ∧ (gA Y 214 0 (p)) = (gF X 3 (p) 11) ∧ (gF X 1 0 2) ≤ (gF X 3 (p) 11) ∧ (p < q → (gF X 1 0 2) < (gF X 3 (p) 11)) ∧ (gF X 3 (p) 11) ≤ 762) ∨ (2 ≤ (gF X 3 (p) 8) ∧ (gF X 3 (p) 8) ≤ 8 ∧ (gF X 3 (p) 10) = -1 ∧ (gF X 3 (p) 11) = -1)))) := by
  by_cases h : 0 ≤ p ∧ p < (gF X 1 0 1)
  · obtain ⟨a1, a2, a3, a4, a5, a6, a7, a8, a9, a10, a11, a12, a13, a14⟩ := iP.2.2.2 p h.1 h.2
    refine Or.inr ⟨h, a1.2, a2, a3, a4, a5.1, a6, a7, a8, a9.1, a10, ?_⟩
    by_cases h0 : (gF X 3 (p) 8) = 0
    · exact Or.inl ⟨h0, (a11 h0).1, (a11 h0).2.1, (a11 h0).2.2, a14 (by omega)⟩
    · by_cases h1 : (gF X 3 (p) 8) = 1
      · obtain ⟨b1, b2, b3, b4, b5, b6⟩ := a12 h1
        exact Or.inr (Or.inl ⟨h1, b1, b2, b3, b4, b5, b6⟩)
      · exact Or.inr (Or.inr ⟨by omega, by omega, a13 (by omega), a14 h1⟩)
  · exact Or.inl h
theorem nk214 {c : Nat} (h1 : 204 ≤ c) (h2 : c ≤ 214) : ¬ c = 35 ∧ ¬ c = 218 ∧ ¬ c = 44 ∧ ¬ c = 45 ∧ ¬ c = 234 := ⟨by omega, by omega, by omega, by omega, by omega⟩
/-- all but one person are as they were -/
theorem IPers_one {np : Nat} {q q1 : Int} {X Y X1 Y1 : PH} {p : Int} (iP : IPers np q X Y) (e1 : (gF X1 1 0 1) = (gF X 1 0 1)) (e2 : (gF Y1 12 0 17) = (gF Y 12 0 17)) (e3 : (gF X1 1 0 2) = (gF X 1 0 2)) (e4 : (gF Y1 12 0 0) = (gF Y 12 0 0)) (e5 : gA X1 31 0 = gA X 31 0) (e6 : gA Y1 203 0 = gA Y 203 0) (e7 : (gF X1 2 0 2) = (gF X 2 0 2))
    (hq : ∀ i, i ≠ p → i < q1 → i < q) (hF : ∀ i, i ≠ p → ∀ k, gF X1 3 i k = gF X 3 i k) (hs : ∀ i, gF X1 3 i 2 = gF X 3 i 2) (hD : ∀ i, i ≠ p → gD X1 30 0 i = gD X 30 0 i) (hY : ∀ i, i ≠ p → ∀ c, 204 ≤ c → c ≤ 214 → gA Y1 c 0 i = gA Y c 0 i)
    (hp : pers1 q1 (gF X 1 0 2) (gF X 2 0 2) X1 Y1 p) : IPers np q1 X1 Y1 := by
  refine ⟨by rw [e1, e2]; exact iP.1, by rw [e3, e4]; exact iP.2.1, fun g a b => by rw [e5, e6]; exact iP.2.2.1 g a b, fun i a b => ?_⟩
  rw [e3, e7]
  by_cases e : i = p
  · rw [e]; exact hp
  · have h := iP.2.2.2 i a (by rw [← e1]; exact b)
    unfold pers1 at h ⊢
    rw [hF i e, hF i e, hF i e, hF i e, hF i e, hF i e, hF i e, hF i e, hF i e, hF i e, hF i e, hF i e, hD i e, hs (gF X 3 i 4), hY i e 204 (by omega) (by omega), hY i e 205 (by omega) (by omega), hY i e 206 (by omega) (by omega), hY i e 207 (by omega) (by omega), hY i e 208 (by omega) (by omega), hY i e 209 (by omega) (by omega), hY i e 210 (by omega) (by omega), hY i e 211 (by omega) (by omega), hY i e 212 (by omega) (by omega), hY i e 213 (by omega) (by omega), hY i e 214 (by omega) (by omega)]
    obtain ⟨a1, a2, a3, a4, a5, a6, a7, a8, a9, a10, a11, a12, a13⟩ := h
    exact ⟨a1, a2, a3, a4, a5, a6, a7, a8, a9, a10, a11, fun z => by obtain ⟨b1, b2, b3, b4, b5, b6⟩ := a12 z; exact ⟨b1, b2, b3, b4, fun y => b5 (hq i e y), b6⟩, a13⟩
theorem cnt_mono {p q : Int → Prop} {n : Int} (hn : 0 ≤ n) (h : ∀ i, 0 ≤ i → i < n → p i → q i) : cnt p n ≤ cnt q n := by
  refine nat_ind (p := fun n => (∀ i, 0 ≤ i → i < n → p i → q i) → cnt p n ≤ cnt q n) (fun _ => Int.le_refl 0) (fun n hn ih h => ?_) n hn h
  rw [cnt_s _ hn, cnt_s _ hn]
  have h1 := ih (fun i a b => h i a (by omega))
  have h2 := b2i_01 (p n)
  have h3 := b2i_01 (q n)
  by_cases e : p n
  · rw [b2i_t e, b2i_t (h n hn (by omega) e)]; omega
  · rw [b2i_f e]; omega
theorem cnt_up {p : Int → Prop} {m n : Int} (h0 : 0 ≤ m) (h : m ≤ n) : cnt p m ≤ cnt p n := by
  obtain ⟨k, rfl⟩ : ∃ k : Nat, n = m + k := ⟨(n - m).toNat, by omega⟩
  induction k with
  | zero => rw [show m + ((0 : Nat) : Int) = m by omega]; exact Int.le_refl _
  | succ k ih =>
    rw [show m + ((k + 1 : Nat) : Int) = (m + k) + 1 by omega, cnt_s _ (by omega)]
    have := ih (by omega)
    have := b2i_01 (p (m + k))
    omega
theorem cnt_inj {p : Int → Prop} {i j : Int} (hi : 0 ≤ i) (hj : 0 ≤ j) (pi : p i) (pj : p j) (h : cnt p i = cnt p j) : i = j := by
  rcases Int.lt_trichotomy i j with q | q | q
  · have h1 := cnt_up (p := p) (m := i + 1) (n := j) (by omega) (by omega)
    rw [cnt_t hi pi] at h1; omega
  · exact q
  · have h1 := cnt_up (p := p) (m := j + 1) (n := i) (by omega) (by omega)
    rw [cnt_t hj pj] at h1; omega
/-- stays after one has left -/
theorem IStay_leave {X Y X1 Y1 : PH} {p : Int} (iS : IStay X Y) (hd : 0 ≤ (gF X 1 0 2)) (e0 : (gF Y 12 0 0) = (gF X 1 0 2)) (e1 : (gF X1 1 0 3) = (gF X 1 0 3)) (e2 : (gF Y1 12 0 22) = (gF Y 12 0 22)) (e3 : (gF X1 1 0 1) = (gF X 1 0 1)) (e4 : (gF X1 1 0 2) = (gF X 1 0 2)) (e5 : gA X1 32 0 = gA X 32 0) (e6 : gA X1 33 0 = gA X 33 0) (e7 : gA X1 34 0 = gA X 34 0)
    (e8 : gA Y1 215 0 = gA Y 215 0) (e9 : gA Y1 216 0 = gA Y 216 0) (e10 : gA Y1 217 0 = gA Y 217 0) (ef : gA X1 35 0 = filF (fun j0 => (gA X 32 0 (j0)) = p ∧ (gA X 35 0 (j0)) = -1) (fun _ => (gF X 1 0 2)) (gA X 35 0) (gF X 1 0 3))
    (eg : ((gF X 3 (p) 8) = 0 ∧ gA Y1 218 0 = filF (fun j0 => (gA Y 215 0 (j0)) = p ∧ (gA Y 218 0 (j0)) < 0) (fun _ => (gF Y 12 0 0)) (gA Y 218 0) (gF Y 12 0 22)) ∨ ((gF X 3 (p) 8) ≠ 0 ∧ gA Y1 218 0 = gA Y 218 0)) (hs : ∀ i, i ≠ p → (gF X1 3 (i) 8) = (gF X 3 (i) 8)) (hc : (gF X 1 0 3) + cnt (owP X1) (gF X 1 0 1) ≤ 400) : IStay X1 Y1 := by
  refine ⟨by rw [e1, e2, e3]; exact ⟨iS.1.1, iS.1.2.1, hc⟩, fun s a b => ?_⟩
  rw [e1] at b
  obtain ⟨⟨h1, h2, h3⟩, h4, h5, h6, h7⟩ := iS.2 s a b
  unfold stay1
  rw [e3, e4, e5, e6, e7, e8, e9, e10, ef]
  have em := iS.1.1
  by_cases q : (gA X 32 0 (s)) = p ∧ (gA X 35 0 (s)) = -1
  · have h8 : (gF X 3 (p) 8) = 0 := by
      rcases h7 with ⟨-, h7⟩ | h7
      · rw [q.1] at h7; exact h7
      · omega
    rcases eg with ⟨-, eg⟩ | ⟨eg, -⟩
    · rw [eg, fil_t a b q, fil_t a (by rw [em]; exact b) ⟨by rw [h1]; exact q.1, by rw [h6]; omega⟩]
      exact ⟨⟨h1, h2, h3⟩, h4, h5, e0, Or.inr ⟨hd, Int.le_refl _⟩⟩
    · exact absurd h8 eg
  · rw [fil_f (fun z => q z.2.2)]
    have h9 : gA Y1 218 0 s = gA Y 218 0 s := by
      rcases eg with ⟨-, eg⟩ | ⟨-, eg⟩
      · rw [eg]
        refine fil_f (fun z => q ⟨by rw [← h1]; exact z.2.2.1, ?_⟩)
        have := z.2.2.2
        rw [h6] at this
        omega
      · rw [eg]
    rw [h9]
    refine ⟨⟨h1, h2, h3⟩, h4, h5, h6, h7.imp (fun z => ⟨z.1, ?_⟩) id⟩
    by_cases e : (gA X 32 0 (s)) = p
    · exact absurd ⟨e, z.1⟩ q
    · rw [hs _ e]; exact z.2
theorem cnt_one {q r : Int → Prop} {n p : Int} (hn : 0 ≤ n) (h : ∀ i, 0 ≤ i → i < n → i ≠ p → q i → r i) : cnt q n ≤ cnt r n + (if p < n then 1 else 0) := by
  refine nat_ind (p := fun n => (∀ i, 0 ≤ i → i < n → i ≠ p → q i → r i) → cnt q n ≤ cnt r n + (if p < n then 1 else 0)) (fun _ => by rw [cnt_0, cnt_0]; split <;> omega) (fun n hn ih h => ?_) n hn h
  rw [cnt_s _ hn, cnt_s _ hn]
  have h1 := ih (fun i a b => h i a (by omega))
  have h2 := b2i_01 (q n)
  have h3 := b2i_01 (r n)
  by_cases e : n = p
  · subst e
    rw [if_neg (by omega)] at h1
    rw [if_pos (by omega)]
    omega
  · have h4 : b2i (q n) ≤ b2i (r n) := by
      by_cases z : q n
      · rw [b2i_t z, b2i_t (h n hn (by omega) e z)]; omega
      · rw [b2i_f z]; omega
    split at h1 <;> split <;> omega
theorem inbeds_eq {np : Nat} {q : Int} {X Y : PH} (iP : IPers np q X Y) (c : Int) : cnt (fun i => (gA Y 206 0 (i)) ≤ 1 ∧ (gA Y 207 0 (i)) = c) (gF Y 12 0 17) = cnt (fun i => (gF X 3 (i) 8) ≤ 1 ∧ (gF X 3 (i) 10) = c) (gF X 1 0 1) := by
  rw [iP.1.2.2]
  refine cnt_congr fun i a b => ?_
  have := pf iP i
  omega
theorem onway_eq {np : Nat} {q : Int} {X Y : PH} (iP : IPers np q X Y) (hc : (gF X 2 0 2) ≤ 16) : cnt (fun i => (gA Y 206 0 (i)) = 1 ∧ (gA Y 207 0 (i)) < 16) (gF Y 12 0 17) = cnt (owP X) (gF X 1 0 1) := by
  rw [iP.1.2.2]
  refine cnt_congr fun i a b => ?_
  have := pf iP i
  unfold owP
  omega
theorem onroad_eq {np : Nat} {q : Int} {X Y : PH} (iP : IPers np q X Y) (hc : (gF X 2 0 2) ≤ 16) : cnt (fun i => (gF X 3 (i) 8) = 1 ∧ 0 ≤ (gF X 3 (i) 10) ∧ (gF X 3 (i) 10) < (gF X 2 0 2)) (gF X 1 0 1) = cnt (owP X) (gF X 1 0 1) := by
  refine cnt_congr fun i a b => ?_
  have := pf iP i
  unfold owP
  omega
theorem far_pair {X Y : PH} (iL : ILand X Y) {c c1 t : Int} {D1 D2 : Int → Int} (hc : 0 ≤ c ∧ c < (gF X 2 0 2)) (e : c1 = c) (t0 : 0 ≤ t) (t1 : t < 18) (h1 : IsD (fun u v => (gA X 43 0 (u * 18 + v))) (fun u => ¬ (0 ≤ u ∧ u < (gF X 2 0 2)) ∨ (gA X 41 0 (u)) = (gA X 41 0 (c))) c 1000000000 D1) (hb : ∀ v, 0 ≤ v → v < 18 → D1 v < 1000000000 → D1 v ≤ 162)
    (h2 : IsD (fun u v => (gA Y 202 0 (18 * u + v))) (fun u => u = c1 ∨ 16 ≤ u ∨ (gA Y 200 0 (u)) = (gA Y 200 0 (c1))) c1 100000 D2) : (1000000000 ≤ D1 t ∧ 100000 ≤ D2 t) ∨ (D1 t < 1000000000 ∧ D2 t < 100000 ∧ D2 t = D1 t ∧ D1 t ≤ 162 ∧ (t ≠ c → 0 < D1 t)) := by
  subst e
  have hD1 := IsD_congr (E' := fun u v => (gA X 43 0 (u * 18 + v))) (T' := fun u => ¬ (0 ≤ u ∧ u < (gF X 2 0 2)) ∨ (gA X 41 0 (u)) = (gA X 41 0 (c1))) (fun u v x y z t => by show (gA Y 202 0 (18 * u + v)) = (gA X 43 0 (u * 18 + v)); rw [show 18 * u + v = u * 18 + v by omega]; exact (iL.2.2.1 (u * 18 + v) (by omega) (by omega)).1) (fun u v x y z t e => far_thr iL hc x y z t e) h2
  have hf := far_one hD1 h1 (by decide) (fun v x y z => by have := hb v x y z; omega) t0 t1
  by_cases q : D1 t < 1000000000
  · have q2 := hf.1.mpr q
    exact Or.inr ⟨q, q2, hf.2 q2, hb t t0 t1 q, fun z => IsD_pos h1 t0 t1 z q⟩
  · exact Or.inl ⟨by omega, by have := mt hf.1.mp q; omega⟩

theorem wd_m11_97 : Cond.methodLink "NameRolls" 97 M_X1_setRise.1 ∈ UW := UW3_at 109 (by decide +kernel) rfl
theorem wd_s1_setRise : Cond.selects M_X1_setRise.1.cls M_X1_setRise.1 M_X1_setRise.1 ∈ UW := UW3_at 111 (by decide +kernel) rfl
theorem wd_m11_107 : Cond.methodLink "NameRolls" 107 M_X1_ease.1 ∈ UW := UW3_at 225 (by decide +kernel) rfl
theorem wd_s1_ease : Cond.selects M_X1_ease.1.cls M_X1_ease.1 M_X1_ease.1 ∈ UW := UW3_at 227 (by decide +kernel) rfl
theorem wd_m11_110 : Cond.methodLink "NameRolls" 110 M_X1_turn.1 ∈ UW := UW3_at 233 (by decide +kernel) rfl
theorem wd_s1_turn : Cond.selects M_X1_turn.1.cls M_X1_turn.1 M_X1_turn.1 ∈ UW := UW3_at 235 (by decide +kernel) rfl
theorem wd_m11_104 : Cond.methodLink "NameRolls" 104 M_X1_send.1 ∈ UW := UW3_at 215 (by decide +kernel) rfl
theorem wd_s1_send : Cond.selects M_X1_send.1.cls M_X1_send.1 M_X1_send.1 ∈ UW := UW3_at 217 (by decide +kernel) rfl
theorem wd_m11_113 : Cond.methodLink "NameRolls" 113 M_X1_tell.1 ∈ UW := UW4_at 5 (by decide +kernel) rfl
theorem wd_s1_tell : Cond.selects M_X1_tell.1.cls M_X1_tell.1 M_X1_tell.1 ∈ UW := UW4_at 7 (by decide +kernel) rfl
theorem wd_m11_116 : Cond.methodLink "NameRolls" 116 M_X1_tellStay.1 ∈ UW := UW4_at 18 (by decide +kernel) rfl
theorem wd_s1_tellStay : Cond.selects M_X1_tellStay.1.cls M_X1_tellStay.1 M_X1_tellStay.1 ∈ UW := UW4_at 20 (by decide +kernel) rfl
theorem wd_m11_237 : Cond.methodLink "NameRolls" 237 M_X1_take.1 ∈ UW := UW7_at 13 (by decide +kernel) rfl
theorem wd_s1_take : Cond.selects M_X1_take.1.cls M_X1_take.1 M_X1_take.1 ∈ UW := UW7_at 15 (by decide +kernel) rfl
theorem r_11_rise_0 : RA M_X11_rise 0 0 1 := Or.inl ⟨0, by decide +kernel, rfl, rfl⟩
theorem r_11_rise_1 : RG M_X11_rise 1 11 1 4 := ⟨21, _, by decide +kernel, rfl, by decide, wd_f11_21, rfl, rfl⟩
theorem r_11_rise_4 : RL M_X11_rise 4 1 5 := Or.inl ⟨1, by decide +kernel, rfl, rfl⟩
theorem r_11_rise_5 : RL M_X11_rise 5 2 6 := Or.inl ⟨2, by decide +kernel, rfl, rfl⟩
theorem r_11_rise_6 : RKv M_X11_rise M_X1_setRise 6 2 1 9 := ⟨97, by decide +kernel, wd_m11_97, ok_M_X1_setRise, wd_s1_setRise, rfl⟩
theorem r_11_rise_9 : RW M_X11_rise 9 .ireturn 10 1 := ⟨by decide +kernel, rfl⟩
theorem r_11_heal_0 : RA M_X11_heal 0 0 1 := Or.inl ⟨0, by decide +kernel, rfl, rfl⟩
theorem r_11_heal_1 : RG M_X11_heal 1 11 1 4 := ⟨21, _, by decide +kernel, rfl, by decide, wd_f11_21, rfl, rfl⟩
theorem r_11_heal_4 : RL M_X11_heal 4 1 5 := Or.inl ⟨1, by decide +kernel, rfl, rfl⟩
theorem r_11_heal_5 : RL M_X11_heal 5 2 6 := Or.inl ⟨2, by decide +kernel, rfl, rfl⟩
theorem r_11_heal_6 : RKv M_X11_heal M_X1_ease 6 2 1 9 := ⟨107, by decide +kernel, wd_m11_107, ok_M_X1_ease, wd_s1_ease, rfl⟩
theorem r_11_heal_9 : RW M_X11_heal 9 .ireturn 10 1 := ⟨by decide +kernel, rfl⟩
theorem r_11_become_0 : RA M_X11_become 0 0 1 := Or.inl ⟨0, by decide +kernel, rfl, rfl⟩
theorem r_11_become_1 : RG M_X11_become 1 11 1 4 := ⟨21, _, by decide +kernel, rfl, by decide, wd_f11_21, rfl, rfl⟩
theorem r_11_become_4 : RL M_X11_become 4 1 5 := Or.inl ⟨1, by decide +kernel, rfl, rfl⟩
theorem r_11_become_5 : RL M_X11_become 5 2 6 := Or.inl ⟨2, by decide +kernel, rfl, rfl⟩
theorem r_11_become_6 : RKv M_X11_become M_X1_turn 6 2 1 9 := ⟨110, by decide +kernel, wd_m11_110, ok_M_X1_turn, wd_s1_turn, rfl⟩
theorem r_11_become_9 : RW M_X11_become 9 .ireturn 10 1 := ⟨by decide +kernel, rfl⟩
theorem r_11_move_0 : RA M_X11_move 0 0 1 := Or.inl ⟨0, by decide +kernel, rfl, rfl⟩
theorem r_11_move_1 : RG M_X11_move 1 11 1 4 := ⟨21, _, by decide +kernel, rfl, by decide, wd_f11_21, rfl, rfl⟩
theorem r_11_move_4 : RL M_X11_move 4 1 5 := Or.inl ⟨1, by decide +kernel, rfl, rfl⟩
theorem r_11_move_5 : RL M_X11_move 5 2 6 := Or.inl ⟨2, by decide +kernel, rfl, rfl⟩
theorem r_11_move_6 : RKv M_X11_move M_X1_send 6 2 1 9 := ⟨104, by decide +kernel, wd_m11_104, ok_M_X1_send, wd_s1_send, rfl⟩
theorem r_11_move_9 : RW M_X11_move 9 .ireturn 10 1 := ⟨by decide +kernel, rfl⟩
theorem r_11_of_0 : RA M_X11_of 0 0 1 := Or.inl ⟨0, by decide +kernel, rfl, rfl⟩
theorem r_11_of_1 : RG M_X11_of 1 11 1 4 := ⟨21, _, by decide +kernel, rfl, by decide, wd_f11_21, rfl, rfl⟩
theorem r_11_of_4 : RL M_X11_of 4 1 5 := Or.inl ⟨1, by decide +kernel, rfl, rfl⟩
theorem r_11_of_5 : RL M_X11_of 5 2 6 := Or.inl ⟨2, by decide +kernel, rfl, rfl⟩
theorem r_11_of_6 : RKv M_X11_of M_X1_tell 6 2 1 9 := ⟨113, by decide +kernel, wd_m11_113, ok_M_X1_tell, wd_s1_tell, rfl⟩
theorem r_11_of_9 : RW M_X11_of 9 .ireturn 10 1 := ⟨by decide +kernel, rfl⟩
theorem r_11_stay_0 : RA M_X11_stay 0 0 1 := Or.inl ⟨0, by decide +kernel, rfl, rfl⟩
theorem r_11_stay_1 : RG M_X11_stay 1 11 1 4 := ⟨21, _, by decide +kernel, rfl, by decide, wd_f11_21, rfl, rfl⟩
theorem r_11_stay_4 : RL M_X11_stay 4 1 5 := Or.inl ⟨1, by decide +kernel, rfl, rfl⟩
theorem r_11_stay_5 : RL M_X11_stay 5 2 6 := Or.inl ⟨2, by decide +kernel, rfl, rfl⟩
theorem r_11_stay_6 : RL M_X11_stay 6 3 7 := Or.inl ⟨3, by decide +kernel, rfl, rfl⟩
theorem r_11_stay_7 : RKv M_X11_stay M_X1_tellStay 7 3 1 10 := ⟨116, by decide +kernel, wd_m11_116, ok_M_X1_tellStay, wd_s1_tellStay, rfl⟩
theorem r_11_stay_10 : RW M_X11_stay 10 .ireturn 11 1 := ⟨by decide +kernel, rfl⟩
theorem r_11_taken_0 : RA M_X11_taken 0 0 1 := Or.inl ⟨0, by decide +kernel, rfl, rfl⟩
theorem r_11_taken_1 : RG M_X11_taken 1 11 1 4 := ⟨21, _, by decide +kernel, rfl, by decide, wd_f11_21, rfl, rfl⟩
theorem r_11_taken_4 : RL M_X11_taken 4 1 5 := Or.inl ⟨1, by decide +kernel, rfl, rfl⟩
theorem r_11_taken_5 : RL M_X11_taken 5 2 6 := Or.inl ⟨2, by decide +kernel, rfl, rfl⟩
theorem r_11_taken_6 : RKv M_X11_taken M_X1_take 6 2 1 9 := ⟨237, by decide +kernel, wd_m11_237, ok_M_X1_take, wd_s1_take, rfl⟩
theorem r_11_taken_9 : RW M_X11_taken 9 .ireturn 10 1 := ⟨by decide +kernel, rfl⟩
set_option maxRecDepth 10000 in
theorem sp_X11_rise {l : Launch} {w : Wo} {d : Nat} {G : PH} {P : Option PV → PH → Prop} {g v : Int} (h1 : ¬ ((1 ≤ g ∧ g ≤ 9) ∧ 0 ≤ v ∧ v ≤ 99) → P (some (vI (-1))) G) (h2 : (1 ≤ g ∧ g ≤ 9) → (0 ≤ v ∧ v ≤ 99) → P (some (vI (gA G 31 0 (g)))) (sA G 31 0 g v)) : PW l w M_X11_rise (d + 2) 0 [some (vR 11 (0)), some (vI (g)), some (vI (v))] [] G P := by
  refine pw_aload r_11_rise_0 rfl ?_
  refine pw_getR r_11_rise_1 fs_11_1 (by decide) ?_
  refine pw_iload r_11_rise_4 rfl ?_
  refine pw_iload r_11_rise_5 rfl ?_
  refine pw_callV (av := [vI (g), vI (v)]) (st := []) (ls0 := [some (vR 1 (0)), some (vI (g)), some (vI (v)), none]) r_11_rise_6 rfl rfl rfl (Nat.le_refl _) ?_
  refine sp_X1_setRise  ?_ ?_
  · skip
    intro q1
    refine pw_iret r_11_rise_9 rfl (Nat.le_refl _) ⟨rfl, ?_⟩
    exact h1 q1
  · skip
    intro q1 q2
    refine pw_iret r_11_rise_9 rfl (Nat.le_refl _) ⟨rfl, ?_⟩
    exact h2 q1 q2
set_option maxRecDepth 10000 in
theorem sp_X11_heal {l : Launch} {w : Wo} {d : Nat} {G : PH} {P : Option PV → PH → Prop} {p g : Int} (hp : ∀ i, 0 ≤ i → i < (gF G 1 0 1) → gD G 30 0 i = some (3, i)) (hsz : 0 ≤ (gF G 1 0 1) ∧ (gF G 1 0 1) ≤ 150) (h1 : ¬ ((0 ≤ p ∧ p < (gF G 1 0 1)) ∧ 0 ≤ g ∧ g ≤ 9) → P (some (vI (-1))) G) (h2 : (0 ≤ p ∧ p < (gF G 1 0 1)) → (0 ≤ g ∧ g ≤ 9) → ((gF G 3 (p) 8) ≠ 0 ∨ (gF G 3 (p) 6) ≤ g) → P (some (vI (-3))) G) (h3 : (0 ≤ p ∧ p < (gF G 1 0 1)) → (0 ≤ g ∧ g ≤ 9) → (gF G 3 (p) 8) = 0 → g < (gF G 3 (p) 6) → P (some (vI (gF G 3 (p) 6))) (sF (sF G 3 (p) 6 (g)) 3 (p) 7 ((gF G 1 0 2)))) : PW l w M_X11_heal (d + 2) 0 [some (vR 11 (0)), some (vI (p)), some (vI (g))] [] G P := by
  refine pw_aload r_11_heal_0 rfl ?_
  refine pw_getR r_11_heal_1 fs_11_1 (by decide) ?_
  refine pw_iload r_11_heal_4 rfl ?_
  refine pw_iload r_11_heal_5 rfl ?_
  refine pw_callV (av := [vI (p), vI (g)]) (st := []) (ls0 := [some (vR 1 (0)), some (vI (p)), some (vI (g)), none, none]) r_11_heal_6 rfl rfl rfl (Nat.le_refl _) ?_
  refine sp_X1_ease (by first | assumption | exact hp | omega) (by first | assumption | exact hsz | omega) ?_ ?_ ?_
  · skip
    intro q1
    refine pw_iret r_11_heal_9 rfl (Nat.le_refl _) ⟨rfl, ?_⟩
    exact h1 q1
  · skip
    intro q1 q2 q3
    refine pw_iret r_11_heal_9 rfl (Nat.le_refl _) ⟨rfl, ?_⟩
    exact h2 q1 q2 q3
  · skip
    intro q1 q2 q3 q4
    refine pw_eqG (G' := sF (sF G 3 (p) 6 (g)) 3 (p) 7 ((gF G 1 (0) 2))) (by first | rfl | simp (disch := decide) [gF_sF, gF_sA, gF_uA, gF_sD, gA_sF, gA_sA, gA_uA, gA_sD, gD_sF, gD_sA, gD_uA, gD_sD]) ?_
    refine pw_iret r_11_heal_9 rfl (Nat.le_refl _) ⟨rfl, ?_⟩
    exact h3 q1 q2 q3 q4
set_option maxRecDepth 10000 in
theorem sp_X11_become {l : Launch} {w : Wo} {d : Nat} {G : PH} {P : Option PV → PH → Prop} {p s : Int} (hp : ∀ i, 0 ≤ i → i < (gF G 1 0 1) → gD G 30 0 i = some (3, i)) (hsz : 0 ≤ (gF G 1 0 1) ∧ (gF G 1 0 1) ≤ 150) (hst : 0 ≤ (gF G 1 0 3) ∧ (gF G 1 0 3) ≤ 400) (hnum : (0 ≤ p ∧ p < (gF G 1 0 1)) → (gF G 3 (p) 0) = p) (h1 : ¬ ((0 ≤ p ∧ p < (gF G 1 0 1)) ∧ 4 ≤ s ∧ s ≤ 8) → P (some (vI (-1))) G) (h2 : (0 ≤ p ∧ p < (gF G 1 0 1)) → (4 ≤ s ∧ s ≤ 8) → ¬ ((s = 4 ∧ (gF G 3 (p) 8) = 2) ∨ (s = 5 ∧ ((gF G 3 (p) 8) = 3 ∨ (gF G 3 (p) 8) = 4)) ∨ ((s = 6 ∨ s = 7) ∧ (gF G 3 (p) 8) = 0) ∨ (¬ (4 ≤ s ∧ s ≤ 7) ∧ (gF G 3 (p) 8) ≤ 4)) → P (some (vI (-3))) G) (h3 : (0 ≤ p ∧ p < (gF G 1 0 1)) → (4 ≤ s ∧ s ≤ 8) → ((s = 4 ∧ (gF G 3 (p) 8) = 2) ∨ (s = 5 ∧ ((gF G 3 (p) 8) = 3 ∨ (gF G 3 (p) 8) = 4)) ∨ ((s = 6 ∨ s = 7) ∧ (gF G 3 (p) 8) = 0) ∨ (¬ (4 ≤ s ∧ s ≤ 7) ∧ (gF G 3 (p) 8) ≤ 4)) → P (some (vI 1)) (sF (sF (sF (sF (uA G 35 0 (filF (fun j0 => (gA G 32 0 (j0)) = p ∧ (gA G 35 0 (j0)) = -1) (fun j0 => (gF G 1 0 2)) (gA G 35 0) (gF G 1 0 3))) 3 (p) 8 (s)) 3 (p) 10 (-1)) 3 (p) 9 ((gF G 1 0 2))) 3 (p) 11 (-1))) : PW l w M_X11_become (d + 3) 0 [some (vR 11 (0)), some (vI (p)), some (vI (s))] [] G P := by
  refine pw_aload r_11_become_0 rfl ?_
  refine pw_getR r_11_become_1 fs_11_1 (by decide) ?_
  refine pw_iload r_11_become_4 rfl ?_
  refine pw_iload r_11_become_5 rfl ?_
  refine pw_callV (av := [vI (p), vI (s)]) (st := []) (ls0 := [some (vR 1 (0)), some (vI (p)), some (vI (s)), none]) r_11_become_6 rfl rfl rfl (Nat.le_refl _) ?_
  refine sp_X1_turn (by first | assumption | exact hp | omega) (by first | assumption | exact hsz | omega) (by first | assumption | exact hst | omega) (by first | assumption | exact hnum | omega) ?_ ?_ ?_
  · skip
    intro q1
    refine pw_iret r_11_become_9 rfl (Nat.le_refl _) ⟨rfl, ?_⟩
    exact h1 q1
  · skip
    intro q1 q2 q3
    refine pw_iret r_11_become_9 rfl (Nat.le_refl _) ⟨rfl, ?_⟩
    exact h2 q1 q2 q3
  · skip
    intro q1 q2 q3
    refine pw_eqG (G' := sF (sF (sF (sF (uA G 35 (0) (filF (fun j0 => (gA G 32 (0) (j0)) = p ∧ (gA G 35 (0) (j0)) = -1) (fun j0 => (gF G 1 (0) 2)) (gA G 35 0) (gF G 1 (0) 3))) 3 (p) 8 (s)) 3 (p) 10 (-1)) 3 (p) 9 ((gF G 1 (0) 2))) 3 (p) 11 (-1)) (by first | rfl | simp (disch := decide) [gF_sF, gF_sA, gF_uA, gF_sD, gA_sF, gA_sA, gA_uA, gA_sD, gD_sF, gD_sA, gD_uA, gD_sD]) ?_
    refine pw_iret r_11_become_9 rfl (Nat.le_refl _) ⟨rfl, ?_⟩
    exact h3 q1 q2 q3
set_option maxRecDepth 10000 in
theorem sp_X11_move {l : Launch} {w : Wo} {d : Nat} {G : PH} {P : Option PV → PH → Prop} {p t : Int} (hp : ∀ i, 0 ≤ i → i < (gF G 1 0 1) → gD G 30 0 i = some (3, i)) (hsz : 0 ≤ (gF G 1 0 1) ∧ (gF G 1 0 1) ≤ 150) (hst : 0 ≤ (gF G 1 0 3) ∧ (gF G 1 0 3) ≤ 400) (hnum : (0 ≤ p ∧ p < (gF G 1 0 1)) → (gF G 3 (p) 0) = p) (hpl : (0 ≤ p ∧ p < (gF G 1 0 1)) → (gF G 3 (p) 8) = 0 → 0 ≤ (gF G 3 (p) 10) ∧ (gF G 3 (p) 10) < (gF G 2 0 2)) (hday : 0 ≤ (gF G 1 0 2) ∧ (gF G 1 0 2) ≤ 600) (hc : 0 ≤ (gF G 2 0 2) ∧ (gF G 2 0 2) ≤ 16) (hr : ∀ k, 0 ≤ k → k < 324 → 0 ≤ (gA G 43 0 (k)) ∧ (gA G 43 0 (k)) ≤ 9) (h1 : ¬ ((0 ≤ p ∧ p < (gF G 1 0 1)) ∧ ((0 ≤ t ∧ t < (gF G 2 0 2)) ∨ t = 16 ∨ t = 17)) → P (some (vI (-1))) G) (h2 : (0 ≤ p ∧ p < (gF G 1 0 1)) → ((0 ≤ t ∧ t < (gF G 2 0 2)) ∨ t = 16 ∨ t = 17) → ¬ ((gF G 3 (p) 8) = 0 ∧ (gF G 3 (p) 10) ≠ t ∧ (¬ (0 ≤ t ∧ t < (gF G 2 0 2)) ∨ ((gA G 41 0 (t)) = (gF G 3 (p) 2) ∧ cnt (fun i => (gF G 3 (i) 8) ≤ 1 ∧ (gF G 3 (i) 10) = t) (gF G 1 0 1) < (gA G 42 0 (t))))) → P (some (vI (-3))) G) (h3 : (0 ≤ p ∧ p < (gF G 1 0 1)) → ((0 ≤ t ∧ t < (gF G 2 0 2)) ∨ t = 16 ∨ t = 17) → ((gF G 3 (p) 8) = 0 ∧ (gF G 3 (p) 10) ≠ t ∧ (¬ (0 ≤ t ∧ t < (gF G 2 0 2)) ∨ ((gA G 41 0 (t)) = (gF G 3 (p) 2) ∧ cnt (fun i => (gF G 3 (i) 8) ≤ 1 ∧ (gF G 3 (i) 10) = t) (gF G 1 0 1) < (gA G 42 0 (t))))) → ∀ Dr fr, IsD (fun u v => (gA G 43 0 (u * 18 + v))) (fun u => ¬ (0 ≤ u ∧ u < (gF G 2 0 2)) ∨ (gA G 41 0 (u)) = (gA G 41 0 ((gF G 3 (p) 10)))) (gF G 3 (p) 10) 1000000000 Dr → (∀ v, 0 ≤ v → v < 18 → Dr v < 1000000000 → Dr v ≤ 162) → 1000000000 ≤ Dr t → P (some (vI (-4))) (uA (uA G 44 0 Dr) 45 0 fr)) (h4 : (0 ≤ p ∧ p < (gF G 1 0 1)) → ((0 ≤ t ∧ t < (gF G 2 0 2)) ∨ t = 16 ∨ t = 17) → ((gF G 3 (p) 8) = 0 ∧ (gF G 3 (p) 10) ≠ t ∧ (¬ (0 ≤ t ∧ t < (gF G 2 0 2)) ∨ ((gA G 41 0 (t)) = (gF G 3 (p) 2) ∧ cnt (fun i => (gF G 3 (i) 8) ≤ 1 ∧ (gF G 3 (i) 10) = t) (gF G 1 0 1) < (gA G 42 0 (t))))) → ∀ Dr fr, IsD (fun u v => (gA G 43 0 (u * 18 + v))) (fun u => ¬ (0 ≤ u ∧ u < (gF G 2 0 2)) ∨ (gA G 41 0 (u)) = (gA G 41 0 ((gF G 3 (p) 10)))) (gF G 3 (p) 10) 1000000000 Dr → (∀ v, 0 ≤ v → v < 18 → Dr v < 1000000000 → Dr v ≤ 162) → Dr t < 1000000000 → (0 ≤ t ∧ t < (gF G 2 0 2)) → ¬ ((gF G 1 0 3) + cnt (fun i => (gF G 3 (i) 8) = 1 ∧ 0 ≤ (gF G 3 (i) 10) ∧ (gF G 3 (i) 10) < (gF G 2 0 2)) (gF G 1 0 1) < 400) → P (some (vI (-2))) (uA (uA G 44 0 Dr) 45 0 fr)) (h5 : (0 ≤ p ∧ p < (gF G 1 0 1)) → ((0 ≤ t ∧ t < (gF G 2 0 2)) ∨ t = 16 ∨ t = 17) → ((gF G 3 (p) 8) = 0 ∧ (gF G 3 (p) 10) ≠ t ∧ (¬ (0 ≤ t ∧ t < (gF G 2 0 2)) ∨ ((gA G 41 0 (t)) = (gF G 3 (p) 2) ∧ cnt (fun i => (gF G 3 (i) 8) ≤ 1 ∧ (gF G 3 (i) 10) = t) (gF G 1 0 1) < (gA G 42 0 (t))))) → ∀ Dr fr, IsD (fun u v => (gA G 43 0 (u * 18 + v))) (fun u => ¬ (0 ≤ u ∧ u < (gF G 2 0 2)) ∨ (gA G 41 0 (u)) = (gA G 41 0 ((gF G 3 (p) 10)))) (gF G 3 (p) 10) 1000000000 Dr → (∀ v, 0 ≤ v → v < 18 → Dr v < 1000000000 → Dr v ≤ 162) → Dr t < 1000000000 → (¬ (0 ≤ t ∧ t < (gF G 2 0 2)) ∨ (gF G 1 0 3) + cnt (fun i => (gF G 3 (i) 8) = 1 ∧ 0 ≤ (gF G 3 (i) 10) ∧ (gF G 3 (i) 10) < (gF G 2 0 2)) (gF G 1 0 1) < 400) → ∀ r, r = Dr t → P (some (vI ((gF G 1 0 2) + r))) (sF (sF (sF (sF (sF (sF (uA (uA (uA G 44 0 Dr) 45 0 fr) 35 0 (filF (fun j0 => (gA G 32 0 (j0)) = p ∧ (gA G 35 0 (j0)) = -1) (fun j0 => (gF G 1 0 2)) (gA G 35 0) (gF G 1 0 3))) 3 (p) 8 (1)) 3 (p) 10 (-1)) 3 (p) 9 ((gF G 1 0 2))) 3 (p) 11 (-1)) 3 (p) 10 (t)) 3 (p) 11 ((gF G 1 0 2) + r))) : PW l w M_X11_move (d + 4) 0 [some (vR 11 (0)), some (vI (p)), some (vI (t))] [] G P := by
  refine pw_aload r_11_move_0 rfl ?_
  refine pw_getR r_11_move_1 fs_11_1 (by decide) ?_
  refine pw_iload r_11_move_4 rfl ?_
  refine pw_iload r_11_move_5 rfl ?_
  refine pw_callV (av := [vI (p), vI (t)]) (st := []) (ls0 := [some (vR 1 (0)), some (vI (p)), some (vI (t)), none, none, none]) r_11_move_6 rfl rfl rfl (Nat.le_refl _) ?_
  refine sp_X1_send (by first | assumption | exact hp | omega) (by first | assumption | exact hsz | omega) (by first | assumption | exact hst | omega) (by first | assumption | exact hnum | omega) (by first | assumption | exact hpl | omega) (by first | assumption | exact hday | omega) (by first | assumption | exact hc | omega) (by first | assumption | exact hr | omega) ?_ ?_ ?_ ?_ ?_
  · skip
    intro q1
    refine pw_iret r_11_move_9 rfl (Nat.le_refl _) ⟨rfl, ?_⟩
    exact h1 q1
  · skip
    intro q1 q2 q3
    refine pw_iret r_11_move_9 rfl (Nat.le_refl _) ⟨rfl, ?_⟩
    exact h2 q1 q2 q3
  · skip
    intro q1 q2 q3 Dr fr q4 q5 q6
    refine pw_iret r_11_move_9 rfl (Nat.le_refl _) ⟨rfl, ?_⟩
    exact h3 q1 q2 q3 Dr fr q4 q5 q6
  · skip
    intro q1 q2 q3 Dr fr q4 q5 q6 q7 q8
    refine pw_iret r_11_move_9 rfl (Nat.le_refl _) ⟨rfl, ?_⟩
    exact h4 q1 q2 q3 Dr fr q4 q5 q6 q7 q8
  · skip
    intro q1 q2 q3 Dr fr q4 q5 q6 q7 r q8
    refine pw_eqG (G' := sF (sF (sF (sF (sF (sF (uA (uA (uA G 44 (0) (Dr)) 45 (0) (fr)) 35 (0) (filF (fun j0 => (gA G 32 (0) (j0)) = p ∧ (gA G 35 (0) (j0)) = -1) (fun j0 => (gF G 1 (0) 2)) (gA G 35 0) (gF G 1 (0) 3))) 3 (p) 8 (1)) 3 (p) 10 (-1)) 3 (p) 9 ((gF G 1 (0) 2))) 3 (p) 11 (-1)) 3 (p) 10 (t)) 3 (p) 11 ((gF G 1 (0) 2) + r)) (by first | rfl | simp (disch := decide) [gF_sF, gF_sA, gF_uA, gF_sD, gA_sF, gA_sA, gA_uA, gA_sD, gD_sF, gD_sA, gD_uA, gD_sD]) ?_
    refine pw_iret r_11_move_9 rfl (Nat.le_refl _) ⟨rfl, ?_⟩
    exact h5 q1 q2 q3 Dr fr q4 q5 q6 q7 r q8
set_option maxRecDepth 10000 in
theorem sp_X11_of {l : Launch} {w : Wo} {d : Nat} {G : PH} {P : Option PV → PH → Prop} {p k : Int} (hp : ∀ i, 0 ≤ i → i < (gF G 1 0 1) → gD G 30 0 i = some (3, i)) (hsz : 0 ≤ (gF G 1 0 1) ∧ (gF G 1 0 1) ≤ 150) (hst : 0 ≤ (gF G 1 0 3) ∧ (gF G 1 0 3) ≤ 400) (h1 : ¬ (0 ≤ p ∧ p < (gF G 1 0 1)) → P (some (vI (-2000000000))) G) (h2 : (0 ≤ p ∧ p < (gF G 1 0 1)) → ∀ v, ((k = 0 ∧ v = (gF G 3 (p) 1)) ∨ (k = 1 ∧ v = (gF G 3 (p) 2)) ∨ (k = 2 ∧ v = (gF G 3 (p) 8)) ∨ (k = 3 ∧ v = (gF G 3 (p) 10)) ∨ (k = 4 ∧ v = (gF G 3 (p) 3)) ∨ (k = 5 ∧ v = (gF G 3 (p) 4)) ∨ (k = 6 ∧ v = (gF G 3 (p) 6)) ∨ (k = 7 ∧ v = (gF G 3 (p) 5)) ∨ (k = 8 ∧ v = (gF G 3 (p) 9)) ∨ (k = 9 ∧ v = cnt (fun i => (gA G 32 0 (i)) = p) (gF G 1 0 3)) ∨ (k = 10 ∧ v = (gF G 3 (p) 11)) ∨ (¬ (k = 0 ∨ k = 1 ∨ k = 2 ∨ k = 3 ∨ k = 4 ∨ k = 5 ∨ k = 6 ∨ k = 7 ∨ k = 8 ∨ k = 9 ∨ k = 10) ∧ v = -2000000000)) → P (some (vI v)) G) : PW l w M_X11_of (d + 2) 0 [some (vR 11 (0)), some (vI (p)), some (vI (k))] [] G P := by
  refine pw_aload r_11_of_0 rfl ?_
  refine pw_getR r_11_of_1 fs_11_1 (by decide) ?_
  refine pw_iload r_11_of_4 rfl ?_
  refine pw_iload r_11_of_5 rfl ?_
  refine pw_callV (av := [vI (p), vI (k)]) (st := []) (ls0 := [some (vR 1 (0)), some (vI (p)), some (vI (k)), none]) r_11_of_6 rfl rfl rfl (Nat.le_refl _) ?_
  refine sp_X1_tell (by first | assumption | exact hp | omega) (by first | assumption | exact hsz | omega) (by first | assumption | exact hst | omega) ?_ ?_
  · skip
    intro q1
    refine pw_iret r_11_of_9 rfl (Nat.le_refl _) ⟨rfl, ?_⟩
    exact h1 q1
  · skip
    intro q1 v q2
    refine pw_iret r_11_of_9 rfl (Nat.le_refl _) ⟨rfl, ?_⟩
    exact h2 q1 v q2
set_option maxRecDepth 10000 in
theorem sp_X11_stay {l : Launch} {w : Wo} {d : Nat} {G : PH} {P : Option PV → PH → Prop} {p j k : Int} (hst : 0 ≤ (gF G 1 0 3) ∧ (gF G 1 0 3) ≤ 400) (h1 : (j < 0 ∨ cnt (fun i => (gA G 32 0 (i)) = p) (gF G 1 0 3) ≤ j ∨ ¬ (0 ≤ k ∧ k ≤ 2)) → P (some (vI (-2000000000))) G) (h2 : ∀ s, 0 ≤ s → s < (gF G 1 0 3) → (gA G 32 0 (s)) = p → cnt (fun i => (gA G 32 0 (i)) = p) s = j → ∀ v, ((k = 0 ∧ v = (gA G 33 0 (s))) ∨ (k = 1 ∧ v = (gA G 34 0 (s))) ∨ (k = 2 ∧ v = (gA G 35 0 (s)))) → P (some (vI v)) G) : PW l w M_X11_stay (d + 1) 0 [some (vR 11 (0)), some (vI (p)), some (vI (j)), some (vI (k))] [] G P := by
  refine pw_aload r_11_stay_0 rfl ?_
  refine pw_getR r_11_stay_1 fs_11_1 (by decide) ?_
  refine pw_iload r_11_stay_4 rfl ?_
  refine pw_iload r_11_stay_5 rfl ?_
  refine pw_iload r_11_stay_6 rfl ?_
  refine pw_callV (av := [vI (p), vI (j), vI (k)]) (st := []) (ls0 := [some (vR 1 (0)), some (vI (p)), some (vI (j)), some (vI (k)), none, none]) r_11_stay_7 rfl rfl rfl (Nat.le_refl _) ?_
  refine sp_X1_tellStay (by first | assumption | exact hst | omega) ?_ ?_
  · skip
    intro q1
    refine pw_iret r_11_stay_10 rfl (Nat.le_refl _) ⟨rfl, ?_⟩
    exact h1 q1
  · skip
    intro s q1 q2 q3 q4 v q5
    refine pw_iret r_11_stay_10 rfl (Nat.le_refl _) ⟨rfl, ?_⟩
    exact h2 s q1 q2 q3 q4 v q5
set_option maxRecDepth 10000 in
theorem sp_X11_taken {l : Launch} {w : Wo} {d : Nat} {G : PH} {P : Option PV → PH → Prop} {p k : Int} (hp : ∀ i, 0 ≤ i → i < (gF G 1 0 1) → gD G 30 0 i = some (3, i)) (hsz : 0 ≤ (gF G 1 0 1) ∧ (gF G 1 0 1) ≤ 150) (hk : (0 ≤ p ∧ p < (gF G 1 0 1)) → 1 ≤ (gF G 3 (p) 1) ∧ (gF G 3 (p) 1) ≤ 7) (h1 : ¬ ((0 ≤ p ∧ p < (gF G 1 0 1)) ∧ 0 ≤ k ∧ k ≤ 7) → P (some (vI (-1))) G) (h2 : (0 ≤ p ∧ p < (gF G 1 0 1)) → (0 ≤ k ∧ k ≤ 7) → ¬ (Und (gF G 3 (p) 1) k) → P (some (vI (-5))) G) (h3 : (0 ≤ p ∧ p < (gF G 1 0 1)) → (0 ≤ k ∧ k ≤ 7) → (Und (gF G 3 (p) 1) k) → P (some (vI (gF G 3 (p) 1))) G) : PW l w M_X11_taken (d + 2) 0 [some (vR 11 (0)), some (vI (p)), some (vI (k))] [] G P := by
  refine pw_aload r_11_taken_0 rfl ?_
  refine pw_getR r_11_taken_1 fs_11_1 (by decide) ?_
  refine pw_iload r_11_taken_4 rfl ?_
  refine pw_iload r_11_taken_5 rfl ?_
  refine pw_callV (av := [vI (p), vI (k)]) (st := []) (ls0 := [some (vR 1 (0)), some (vI (p)), some (vI (k)), none]) r_11_taken_6 rfl rfl rfl (Nat.le_refl _) ?_
  refine sp_X1_take (by first | assumption | exact hp | omega) (by first | assumption | exact hsz | omega) (by first | assumption | exact hk | omega) ?_ ?_ ?_
  · skip
    intro q1
    refine pw_iret r_11_taken_9 rfl (Nat.le_refl _) ⟨rfl, ?_⟩
    exact h1 q1
  · skip
    intro q1 q2 q3
    refine pw_iret r_11_taken_9 rfl (Nat.le_refl _) ⟨rfl, ?_⟩
    exact h2 q1 q2 q3
  · skip
    intro q1 q2 q3
    refine pw_iret r_11_taken_9 rfl (Nat.le_refl _) ⟨rfl, ?_⟩
    exact h3 q1 q2 q3
set_option maxRecDepth 10000 in
theorem call_rise {l : Launch} {w : Wo} {d : Nat} {G : PH} (hI : Inv w.1.2 G G) {g : Int} {v : Int} : CallOk l w d M_X11_rise M_X12_rise [some (vR 11 (0)), some (vI (g)), some (vI (v))] [some (vR 12 (0)), some (vI (g)), some (vI (v)), none] G := by
  obtain ⟨iL, iP, iS, iF, iO, iE, iT, iR, iB, iX, iH, iG, iQ, iN, iA, iJ⟩ := hI
  unfold CallOk CallPhi
  refine sp_X11_rise (d := d + 998)  ?_ ?_
  · intro c1
    refine sp_X12_rise (d := d + 999)  ?_ ?_
    · intro m1
      replace m1 : ¬ ((1 ≤ g ∧ g ≤ 9) ∧ 0 ≤ v ∧ v ≤ 99) := m1
      exact ⟨⟨rfl, _, rfl⟩, iL, iP, iS, iF, iO, iE, iT, iR, iB, iX, iH, iG, iQ, iN, iA, iJ⟩
    · intro m1 m2
      replace m1 : (1 ≤ g ∧ g ≤ 9) := m1
      replace m2 : (0 ≤ v ∧ v ≤ 99) := m2
      exfalso; omega
  · intro c1 c2
    refine sp_X12_rise (d := d + 999)  ?_ ?_
    · intro m1
      replace m1 : ¬ ((1 ≤ g ∧ g ≤ 9) ∧ 0 ≤ v ∧ v ≤ 99) := m1
      exfalso; omega
    · intro m1 m2
      replace m1 : (1 ≤ g ∧ g ≤ 9) := m1
      replace m2 : (0 ≤ v ∧ v ≤ 99) := m2
      show (some (vI (gA G 203 (0) (g))) = some (vI (gA G 31 0 (g))) ∧ ∃ vz, some (vI (gA G 31 0 (g))) = some (vI vz)) ∧ Inv w.1.2 (sA (sA G 31 (0) (g) (v)) 203 (0) (g) (v)) (sA (sA G 31 (0) (g) (v)) 203 (0) (g) (v))
      have e1 := iP.2.2.1 g (by omega) (by omega)
      refine ⟨⟨by rw [e1.1], _, rfl⟩, iL, ⟨iP.1, iP.2.1, fun k a b => ?_, iP.2.2.2⟩, iS, iF, iO, iE, iT, iR, iB, iX, iH, iG, iQ, iN, iA, iJ⟩
      have e2 := iP.2.2.1 k a b
      simp only [gF_sF, gF_sA, gF_uA, gF_sD, gA_sF, gA_sA, gA_uA, gA_sD, gD_sF, gD_sA, gD_uA, gD_sD, Nat.reduceEqDiff, reduceCtorEq, false_and, and_false, true_and, and_true, ite_true, ite_false, if_true, if_false, ↓reduceIte, and_self]
      by_cases e : k = g
      · simp only [if_pos e, true_and]; omega
      · simp only [if_neg e]; exact e2
set_option maxRecDepth 10000 in
theorem call_heal {l : Launch} {w : Wo} {d : Nat} {G : PH} (hI : Inv w.1.2 G G) {p : Int} {g : Int} : CallOk l w d M_X11_heal M_X12_heal [some (vR 11 (0)), some (vI (p)), some (vI (g))] [some (vR 12 (0)), some (vI (p)), some (vI (g)), none] G := by
  obtain ⟨iL, iP, iS, iF, iO, iE, iT, iR, iB, iX, iH, iG, iQ, iN, iA, iJ⟩ := hI
  have hsz : 0 ≤ (gF G 1 0 1) ∧ (gF G 1 0 1) ≤ 150 := by have := iP.1; omega
  have ep : (gF G 12 0 17) = (gF G 1 0 1) := iP.1.2.2
  have mhsz : 0 ≤ (gF G 12 0 17) ∧ (gF G 12 0 17) ≤ 150 := by omega
  have hp : ∀ i, 0 ≤ i → i < (gF G 1 0 1) → gD G 30 0 i = some (3, i) := fun i a b => (iP.2.2.2 i a b).1.1
  have hcw := cnt_le (owP G) hsz.1
  have es : (gF G 12 0 22) = (gF G 1 0 3) := iS.1.1
  have hst : 0 ≤ (gF G 1 0 3) ∧ (gF G 1 0 3) ≤ 400 := by have := iS.1; omega
  have mhst : 0 ≤ (gF G 12 0 22) ∧ (gF G 12 0 22) ≤ 400 := by omega
  have hday : 0 ≤ (gF G 1 0 2) ∧ (gF G 1 0 2) ≤ 600 := iP.2.1.2
  have ed : (gF G 12 0 0) = (gF G 1 0 2) := iP.2.1.1
  have hpf := pf iP p
  unfold CallOk CallPhi
  refine sp_X11_heal (d := d + 998) (by first | assumption | exact hp | omega) (by first | assumption | exact hsz | omega) ?_ ?_ ?_
  · intro c1
    refine sp_X12_heal (d := d + 999) (by first | assumption | exact mhsz | omega) ?_ ?_ ?_
    · intro m1
      replace m1 : ¬ ((0 ≤ p ∧ p < (gF G 12 (0) 17)) ∧ 0 ≤ g ∧ g ≤ 9) := m1
      exact ⟨⟨rfl, _, rfl⟩, iL, iP, iS, iF, iO, iE, iT, iR, iB, iX, iH, iG, iQ, iN, iA, iJ⟩
    · intro m1 m2 m3
      replace m1 : (0 ≤ p ∧ p < (gF G 12 (0) 17)) := m1
      replace m2 : (0 ≤ g ∧ g ≤ 9) := m2
      replace m3 : ((gA G 206 (0) (p)) ≠ 0 ∨ (gA G 210 (0) (p)) ≤ g) := m3
      exfalso; omega
    · intro m1 m2 m3 m4
      replace m1 : (0 ≤ p ∧ p < (gF G 12 (0) 17)) := m1
      replace m2 : (0 ≤ g ∧ g ≤ 9) := m2
      replace m3 : (gA G 206 (0) (p)) = 0 := m3
      replace m4 : g < (gA G 210 (0) (p)) := m4
      exfalso; omega
  · intro c1 c2 c3
    refine sp_X12_heal (d := d + 999) (by first | assumption | exact mhsz | omega) ?_ ?_ ?_
    · intro m1
      replace m1 : ¬ ((0 ≤ p ∧ p < (gF G 12 (0) 17)) ∧ 0 ≤ g ∧ g ≤ 9) := m1
      exfalso; omega
    · intro m1 m2 m3
      replace m1 : (0 ≤ p ∧ p < (gF G 12 (0) 17)) := m1
      replace m2 : (0 ≤ g ∧ g ≤ 9) := m2
      replace m3 : ((gA G 206 (0) (p)) ≠ 0 ∨ (gA G 210 (0) (p)) ≤ g) := m3
      exact ⟨⟨rfl, _, rfl⟩, iL, iP, iS, iF, iO, iE, iT, iR, iB, iX, iH, iG, iQ, iN, iA, iJ⟩
    · intro m1 m2 m3 m4
      replace m1 : (0 ≤ p ∧ p < (gF G 12 (0) 17)) := m1
      replace m2 : (0 ≤ g ∧ g ≤ 9) := m2
      replace m3 : (gA G 206 (0) (p)) = 0 := m3
      replace m4 : g < (gA G 210 (0) (p)) := m4
      exfalso; omega
  · intro c1 c2 c3 c4
    refine sp_X12_heal (d := d + 999) (by first | assumption | exact mhsz | omega) ?_ ?_ ?_
    · intro m1
      replace m1 : ¬ ((0 ≤ p ∧ p < (gF G 12 (0) 17)) ∧ 0 ≤ g ∧ g ≤ 9) := m1
      exfalso; omega
    · intro m1 m2 m3
      replace m1 : (0 ≤ p ∧ p < (gF G 12 (0) 17)) := m1
      replace m2 : (0 ≤ g ∧ g ≤ 9) := m2
      replace m3 : ((gA G 206 (0) (p)) ≠ 0 ∨ (gA G 210 (0) (p)) ≤ g) := m3
      exfalso; omega
    · intro m1 m2 m3 m4
      replace m1 : (0 ≤ p ∧ p < (gF G 12 (0) 17)) := m1
      replace m2 : (0 ≤ g ∧ g ≤ 9) := m2
      replace m3 : (gA G 206 (0) (p)) = 0 := m3
      replace m4 : g < (gA G 210 (0) (p)) := m4
      show (some (vI (gA G 210 (0) (p))) = some (vI (gF G 3 (p) 6)) ∧ ∃ vz, some (vI (gF G 3 (p) 6)) = some (vI vz)) ∧ Inv w.1.2 (sA (sA (sF (sF G 3 (p) 6 (g)) 3 (p) 7 ((gF G 1 0 2))) 210 (0) (p) (g)) 211 (0) (p) ((gF G 12 (0) 0))) (sA (sA (sF (sF G 3 (p) 6 (g)) 3 (p) 7 ((gF G 1 0 2))) 210 (0) (p) (g)) 211 (0) (p) ((gF G 12 (0) 0)))
      refine ⟨⟨by rw [show (gA G 210 0 (p)) = (gF G 3 (p) 6) by omega], _, rfl⟩, iL, ?_, iS, iF, iO, iE, iT, iR, iB, iX, iH, iG, iQ, iN, iA, iJ⟩
      refine IPers_one (p := p) iP rfl rfl rfl rfl rfl rfl rfl (fun _ _ h => h) (fun i e k => by simp only [gF_sF, gF_sA, gF_uA, gF_sD, gA_sF, gA_sA, gA_uA, gA_sD, gD_sF, gD_sA, gD_uA, gD_sD, Nat.reduceEqDiff, reduceCtorEq, false_and, and_false, true_and, and_true, ite_true, ite_false, if_true, if_false, ↓reduceIte, and_self, e]) (fun i => rfl) (fun i _ => rfl) (fun i e c hc1 hc2 => by obtain ⟨n1, n2, n3, n4, n5⟩ := nk214 hc1 hc2; simp only [gF_sF, gF_sA, gF_uA, gF_sD, gA_sF, gA_sA, gA_uA, gA_sD, gD_sF, gD_sA, gD_uA, gD_sD, Nat.reduceEqDiff, reduceCtorEq, false_and, and_false, true_and, and_true, ite_true, ite_false, if_true, if_false, ↓reduceIte, and_self, e, n1, n2, n3, n4, n5]) ?_
      have b := (iP.2.2.2 p (by omega) (by omega))
      refine ⟨b.1, b.2.1, b.2.2.1, b.2.2.2.1, b.2.2.2.2.1, b.2.2.2.2.2.1, ?_, ?_, b.2.2.2.2.2.2.2.2.1, b.2.2.2.2.2.2.2.2.2.1, b.2.2.2.2.2.2.2.2.2.2.1, b.2.2.2.2.2.2.2.2.2.2.2.1, b.2.2.2.2.2.2.2.2.2.2.2.2.1, b.2.2.2.2.2.2.2.2.2.2.2.2.2⟩
      · (try simp only [gF_sF, gF_sA, gF_uA, gF_sD, gA_sF, gA_sA, gA_uA, gA_sD, gD_sF, gD_sA, gD_uA, gD_sD, Nat.reduceEqDiff, reduceCtorEq, false_and, and_false, true_and, and_true, ite_true, ite_false, if_true, if_false, ↓reduceIte, and_self]) <;> (try intros) <;> (try simp only [true_and]) <;> omega
      · (try simp only [gF_sF, gF_sA, gF_uA, gF_sD, gA_sF, gA_sA, gA_uA, gA_sD, gD_sF, gD_sA, gD_uA, gD_sD, Nat.reduceEqDiff, reduceCtorEq, false_and, and_false, true_and, and_true, ite_true, ite_false, if_true, if_false, ↓reduceIte, and_self]) <;> (try intros) <;> (try simp only [true_and]) <;> omega
set_option maxRecDepth 10000 in
theorem call_become {l : Launch} {w : Wo} {d : Nat} {G : PH} (hI : Inv w.1.2 G G) {p : Int} {s : Int} : CallOk l w d M_X11_become M_X12_become [some (vR 11 (0)), some (vI (p)), some (vI (s))] [some (vR 12 (0)), some (vI (p)), some (vI (s)), none, none] G := by
  obtain ⟨iL, iP, iS, iF, iO, iE, iT, iR, iB, iX, iH, iG, iQ, iN, iA, iJ⟩ := hI
  have hsz : 0 ≤ (gF G 1 0 1) ∧ (gF G 1 0 1) ≤ 150 := by have := iP.1; omega
  have ep : (gF G 12 0 17) = (gF G 1 0 1) := iP.1.2.2
  have mhsz : 0 ≤ (gF G 12 0 17) ∧ (gF G 12 0 17) ≤ 150 := by omega
  have hp : ∀ i, 0 ≤ i → i < (gF G 1 0 1) → gD G 30 0 i = some (3, i) := fun i a b => (iP.2.2.2 i a b).1.1
  have hcw := cnt_le (owP G) hsz.1
  have es : (gF G 12 0 22) = (gF G 1 0 3) := iS.1.1
  have hst : 0 ≤ (gF G 1 0 3) ∧ (gF G 1 0 3) ≤ 400 := by have := iS.1; omega
  have mhst : 0 ≤ (gF G 12 0 22) ∧ (gF G 12 0 22) ≤ 400 := by omega
  have hday : 0 ≤ (gF G 1 0 2) ∧ (gF G 1 0 2) ≤ 600 := iP.2.1.2
  have ed : (gF G 12 0 0) = (gF G 1 0 2) := iP.2.1.1
  have hpf := pf iP p
  unfold CallOk CallPhi
  refine sp_X11_become (d := d + 997) (by first | assumption | exact hp | omega) (by first | assumption | exact hsz | omega) (by first | assumption | exact hst | omega) (by first | assumption | exact hnum | omega) ?_ ?_ ?_
  · intro c1
    refine sp_X12_become (d := d + 999) (by first | assumption | exact mhsz | omega) (by first | assumption | exact mhst | omega) ?_ ?_ ?_ ?_
    · intro m1
      replace m1 : ¬ ((0 ≤ p ∧ p < (gF G 12 (0) 17)) ∧ 4 ≤ s ∧ s ≤ 8) := m1
      exact ⟨⟨rfl, _, rfl⟩, iL, iP, iS, iF, iO, iE, iT, iR, iB, iX, iH, iG, iQ, iN, iA, iJ⟩
    · intro m1 m2 m3
      replace m1 : (0 ≤ p ∧ p < (gF G 12 (0) 17)) := m1
      replace m2 : (4 ≤ s ∧ s ≤ 8) := m2
      replace m3 : ¬ ((s = 4 ∧ (gA G 206 (0) (p)) = 2) ∨ (s = 5 ∧ ((gA G 206 (0) (p)) = 3 ∨ (gA G 206 (0) (p)) = 4)) ∨ ((s = 6 ∨ s = 7) ∧ (gA G 206 (0) (p)) = 0) ∨ (¬ (4 ≤ s ∧ s ≤ 7) ∧ (gA G 206 (0) (p)) ≤ 4)) := m3
      exfalso; omega
    · intro m1 m2 m3 m4
      replace m1 : (0 ≤ p ∧ p < (gF G 12 (0) 17)) := m1
      replace m2 : (4 ≤ s ∧ s ≤ 8) := m2
      replace m3 : ((s = 4 ∧ (gA G 206 (0) (p)) = 2) ∨ (s = 5 ∧ ((gA G 206 (0) (p)) = 3 ∨ (gA G 206 (0) (p)) = 4)) ∨ ((s = 6 ∨ s = 7) ∧ (gA G 206 (0) (p)) = 0) ∨ (¬ (4 ≤ s ∧ s ≤ 7) ∧ (gA G 206 (0) (p)) ≤ 4)) := m3
      replace m4 : (gA G 206 (0) (p)) ≠ 0 := m4
      exfalso; omega
    · intro m1 m2 m3 m4
      replace m1 : (0 ≤ p ∧ p < (gF G 12 (0) 17)) := m1
      replace m2 : (4 ≤ s ∧ s ≤ 8) := m2
      replace m3 : ((s = 4 ∧ (gA G 206 (0) (p)) = 2) ∨ (s = 5 ∧ ((gA G 206 (0) (p)) = 3 ∨ (gA G 206 (0) (p)) = 4)) ∨ ((s = 6 ∨ s = 7) ∧ (gA G 206 (0) (p)) = 0) ∨ (¬ (4 ≤ s ∧ s ≤ 7) ∧ (gA G 206 (0) (p)) ≤ 4)) := m3
      replace m4 : (gA G 206 (0) (p)) = 0 := m4
      exfalso; omega
  · intro c1 c2 c3
    refine sp_X12_become (d := d + 999) (by first | assumption | exact mhsz | omega) (by first | assumption | exact mhst | omega) ?_ ?_ ?_ ?_
    · intro m1
      replace m1 : ¬ ((0 ≤ p ∧ p < (gF G 12 (0) 17)) ∧ 4 ≤ s ∧ s ≤ 8) := m1
      exfalso; omega
    · intro m1 m2 m3
      replace m1 : (0 ≤ p ∧ p < (gF G 12 (0) 17)) := m1
      replace m2 : (4 ≤ s ∧ s ≤ 8) := m2
      replace m3 : ¬ ((s = 4 ∧ (gA G 206 (0) (p)) = 2) ∨ (s = 5 ∧ ((gA G 206 (0) (p)) = 3 ∨ (gA G 206 (0) (p)) = 4)) ∨ ((s = 6 ∨ s = 7) ∧ (gA G 206 (0) (p)) = 0) ∨ (¬ (4 ≤ s ∧ s ≤ 7) ∧ (gA G 206 (0) (p)) ≤ 4)) := m3
      exact ⟨⟨rfl, _, rfl⟩, iL, iP, iS, iF, iO, iE, iT, iR, iB, iX, iH, iG, iQ, iN, iA, iJ⟩
    · intro m1 m2 m3 m4
      replace m1 : (0 ≤ p ∧ p < (gF G 12 (0) 17)) := m1
      replace m2 : (4 ≤ s ∧ s ≤ 8) := m2
      replace m3 : ((s = 4 ∧ (gA G 206 (0) (p)) = 2) ∨ (s = 5 ∧ ((gA G 206 (0) (p)) = 3 ∨ (gA G 206 (0) (p)) = 4)) ∨ ((s = 6 ∨ s = 7) ∧ (gA G 206 (0) (p)) = 0) ∨ (¬ (4 ≤ s ∧ s ≤ 7) ∧ (gA G 206 (0) (p)) ≤ 4)) := m3
      replace m4 : (gA G 206 (0) (p)) ≠ 0 := m4
      exfalso; omega
    · intro m1 m2 m3 m4
      replace m1 : (0 ≤ p ∧ p < (gF G 12 (0) 17)) := m1
      replace m2 : (4 ≤ s ∧ s ≤ 8) := m2
      replace m3 : ((s = 4 ∧ (gA G 206 (0) (p)) = 2) ∨ (s = 5 ∧ ((gA G 206 (0) (p)) = 3 ∨ (gA G 206 (0) (p)) = 4)) ∨ ((s = 6 ∨ s = 7) ∧ (gA G 206 (0) (p)) = 0) ∨ (¬ (4 ≤ s ∧ s ≤ 7) ∧ (gA G 206 (0) (p)) ≤ 4)) := m3
      replace m4 : (gA G 206 (0) (p)) = 0 := m4
      exfalso; omega
  · intro c1 c2 c3
    refine sp_X12_become (d := d + 999) (by first | assumption | exact mhsz | omega) (by first | assumption | exact mhst | omega) ?_ ?_ ?_ ?_
    · intro m1
      replace m1 : ¬ ((0 ≤ p ∧ p < (gF G 12 (0) 17)) ∧ 4 ≤ s ∧ s ≤ 8) := m1
      exfalso; omega
    · intro m1 m2 m3
      replace m1 : (0 ≤ p ∧ p < (gF G 12 (0) 17)) := m1
      replace m2 : (4 ≤ s ∧ s ≤ 8) := m2
      replace m3 : ¬ ((s = 4 ∧ (gA G 206 (0) (p)) = 2) ∨ (s = 5 ∧ ((gA G 206 (0) (p)) = 3 ∨ (gA G 206 (0) (p)) = 4)) ∨ ((s = 6 ∨ s = 7) ∧ (gA G 206 (0) (p)) = 0) ∨ (¬ (4 ≤ s ∧ s ≤ 7) ∧ (gA G 206 (0) (p)) ≤ 4)) := m3
      exfalso; omega
    · intro m1 m2 m3 m4
      replace m1 : (0 ≤ p ∧ p < (gF G 12 (0) 17)) := m1
      replace m2 : (4 ≤ s ∧ s ≤ 8) := m2
      replace m3 : ((s = 4 ∧ (gA G 206 (0) (p)) = 2) ∨ (s = 5 ∧ ((gA G 206 (0) (p)) = 3 ∨ (gA G 206 (0) (p)) = 4)) ∨ ((s = 6 ∨ s = 7) ∧ (gA G 206 (0) (p)) = 0) ∨ (¬ (4 ≤ s ∧ s ≤ 7) ∧ (gA G 206 (0) (p)) ≤ 4)) := m3
      replace m4 : (gA G 206 (0) (p)) ≠ 0 := m4
      show (some (vI 1) = some (vI 1) ∧ ∃ vz, some (vI 1) = some (vI vz)) ∧ Inv w.1.2 (sA (sA (sA (sF (sF (sF (sF (uA G 35 (0) (filF (fun j0 => (gA G 32 0 (j0)) = p ∧ (gA G 35 0 (j0)) = -1) (fun j0 => (gF G 1 0 2)) (gA G 35 0) (gF G 1 0 3))) 3 (p) 8 (s)) 3 (p) 10 (-1)) 3 (p) 9 ((gF G 1 0 2))) 3 (p) 11 (-1)) 206 (0) (p) (s)) 213 (0) (p) ((gF G 12 (0) 0))) 214 (0) (p) (-1)) (sA (sA (sA (sF (sF (sF (sF (uA G 35 (0) (filF (fun j0 => (gA G 32 0 (j0)) = p ∧ (gA G 35 0 (j0)) = -1) (fun j0 => (gF G 1 0 2)) (gA G 35 0) (gF G 1 0 3))) 3 (p) 8 (s)) 3 (p) 10 (-1)) 3 (p) 9 ((gF G 1 0 2))) 3 (p) 11 (-1)) 206 (0) (p) (s)) 213 (0) (p) ((gF G 12 (0) 0))) 214 (0) (p) (-1))
      refine ⟨⟨rfl, _, rfl⟩, iL, ?_, ?_, iF, iO, iE, iT, iR, iB, iX, iH, iG, iQ, iN, iA, ?_⟩
      · skip
        refine IPers_one (p := p) iP rfl rfl rfl rfl rfl rfl rfl (fun _ _ h => h) (fun i e k => by simp only [gF_sF, gF_sA, gF_uA, gF_sD, gA_sF, gA_sA, gA_uA, gA_sD, gD_sF, gD_sA, gD_uA, gD_sD, Nat.reduceEqDiff, reduceCtorEq, false_and, and_false, true_and, and_true, ite_true, ite_false, if_true, if_false, ↓reduceIte, and_self, e]) (fun i => rfl) (fun i _ => rfl) (fun i e c hc1 hc2 => by obtain ⟨n1, n2, n3, n4, n5⟩ := nk214 hc1 hc2; simp only [gF_sF, gF_sA, gF_uA, gF_sD, gA_sF, gA_sA, gA_uA, gA_sD, gD_sF, gD_sA, gD_uA, gD_sD, Nat.reduceEqDiff, reduceCtorEq, false_and, and_false, true_and, and_true, ite_true, ite_false, if_true, if_false, ↓reduceIte, and_self, e, n1, n2, n3, n4, n5]) ?_
        have b := (iP.2.2.2 p (by omega) (by omega))
        refine ⟨b.1, b.2.1, b.2.2.1, b.2.2.2.1, b.2.2.2.2.1, b.2.2.2.2.2.1, b.2.2.2.2.2.2.1, b.2.2.2.2.2.2.2.1, ?_, ?_, ?_, ?_, ?_, ?_⟩
        · (try simp only [gF_sF, gF_sA, gF_uA, gF_sD, gA_sF, gA_sA, gA_uA, gA_sD, gD_sF, gD_sA, gD_uA, gD_sD, Nat.reduceEqDiff, reduceCtorEq, false_and, and_false, true_and, and_true, ite_true, ite_false, if_true, if_false, ↓reduceIte, and_self]) <;> (try intros) <;> (try simp only [true_and]) <;> (try omega)
        · (try simp only [gF_sF, gF_sA, gF_uA, gF_sD, gA_sF, gA_sA, gA_uA, gA_sD, gD_sF, gD_sA, gD_uA, gD_sD, Nat.reduceEqDiff, reduceCtorEq, false_and, and_false, true_and, and_true, ite_true, ite_false, if_true, if_false, ↓reduceIte, and_self]) <;> (try intros) <;> (try simp only [true_and]) <;> (try omega)
        · (try simp only [gF_sF, gF_sA, gF_uA, gF_sD, gA_sF, gA_sA, gA_uA, gA_sD, gD_sF, gD_sA, gD_uA, gD_sD, Nat.reduceEqDiff, reduceCtorEq, false_and, and_false, true_and, and_true, ite_true, ite_false, if_true, if_false, ↓reduceIte, and_self]) <;> (try intros) <;> (try simp only [true_and]) <;> (try omega)
        · (try simp only [gF_sF, gF_sA, gF_uA, gF_sD, gA_sF, gA_sA, gA_uA, gA_sD, gD_sF, gD_sA, gD_uA, gD_sD, Nat.reduceEqDiff, reduceCtorEq, false_and, and_false, true_and, and_true, ite_true, ite_false, if_true, if_false, ↓reduceIte, and_self]) <;> (try intros) <;> (try simp only [true_and]) <;> (try omega)
        · (try simp only [gF_sF, gF_sA, gF_uA, gF_sD, gA_sF, gA_sA, gA_uA, gA_sD, gD_sF, gD_sA, gD_uA, gD_sD, Nat.reduceEqDiff, reduceCtorEq, false_and, and_false, true_and, and_true, ite_true, ite_false, if_true, if_false, ↓reduceIte, and_self]) <;> (try intros) <;> (try simp only [true_and]) <;> (try omega)
        · (try simp only [gF_sF, gF_sA, gF_uA, gF_sD, gA_sF, gA_sA, gA_uA, gA_sD, gD_sF, gD_sA, gD_uA, gD_sD, Nat.reduceEqDiff, reduceCtorEq, false_and, and_false, true_and, and_true, ite_true, ite_false, if_true, if_false, ↓reduceIte, and_self]) <;> (try intros) <;> (try simp only [true_and]) <;> (try omega)
      · refine IStay_leave (p := p) iS hday.1 ed rfl rfl rfl rfl rfl rfl rfl rfl rfl rfl rfl (Or.inr ⟨by omega, rfl⟩) (fun i e => by simp only [gF_sF, gF_sA, gF_uA, gF_sD, gA_sF, gA_sA, gA_uA, gA_sD, gD_sF, gD_sA, gD_uA, gD_sD, Nat.reduceEqDiff, reduceCtorEq, false_and, and_false, true_and, and_true, ite_true, ite_false, if_true, if_false, ↓reduceIte, and_self, e]) ?_
        have hm := cnt_mono (p := owP (sA (sA (sA (sF (sF (sF (sF (uA G 35 0 (filF (fun j0 => (gA G 32 0 (j0)) = p ∧ (gA G 35 0 (j0)) = -1) (fun j0 => (gF G 1 0 2)) (gA G 35 0) (gF G 1 0 3))) 3 (p) 8 (s)) 3 (p) 10 (-1)) 3 (p) 9 ((gF G 1 0 2))) 3 (p) 11 (-1)) 206 0 (p) (s)) 213 0 (p) ((gF G 12 0 0))) 214 0 (p) (-1))) (q := owP G) (n := (gF G 1 0 1)) hsz.1 (fun i _ _ h => ?_)
        · have := iS.1.2.2; omega
        · unfold owP at h ⊢
          by_cases e : i = p
          · rw [e] at h
            revert h
            simp only [gF_sF, gF_sA, gF_uA, gF_sD, gA_sF, gA_sA, gA_uA, gA_sD, gD_sF, gD_sA, gD_uA, gD_sD, Nat.reduceEqDiff, reduceCtorEq, false_and, and_false, true_and, and_true, ite_true, ite_false, if_true, if_false, ↓reduceIte, and_self]
            intro h; omega
          · revert h
            simp only [gF_sF, gF_sA, gF_uA, gF_sD, gA_sF, gA_sA, gA_uA, gA_sD, gD_sF, gD_sA, gD_uA, gD_sD, Nat.reduceEqDiff, reduceCtorEq, false_and, and_false, true_and, and_true, ite_true, ite_false, if_true, if_false, ↓reduceIte, and_self, e]
            exact id
      · refine ISide_one (p := p) iJ rfl rfl (fun i e => ⟨by simp only [gF_sF, gF_sA, gF_uA, gF_sD, gA_sF, gA_sA, gA_uA, gA_sD, gD_sF, gD_sA, gD_uA, gD_sD, Nat.reduceEqDiff, reduceCtorEq, false_and, and_false, true_and, and_true, ite_true, ite_false, if_true, if_false, ↓reduceIte, and_self, e], by simp only [gF_sF, gF_sA, gF_uA, gF_sD, gA_sF, gA_sA, gA_uA, gA_sD, gD_sF, gD_sA, gD_uA, gD_sD, Nat.reduceEqDiff, reduceCtorEq, false_and, and_false, true_and, and_true, ite_true, ite_false, if_true, if_false, ↓reduceIte, and_self, e], by simp only [gF_sF, gF_sA, gF_uA, gF_sD, gA_sF, gA_sA, gA_uA, gA_sD, gD_sF, gD_sA, gD_uA, gD_sD, Nat.reduceEqDiff, reduceCtorEq, false_and, and_false, true_and, and_true, ite_true, ite_false, if_true, if_false, ↓reduceIte, and_self]⟩) ?_
        unfold sideOk
        simp only [gF_sF, gF_sA, gF_uA, gF_sD, gA_sF, gA_sA, gA_uA, gA_sD, gD_sF, gD_sA, gD_uA, gD_sD, Nat.reduceEqDiff, reduceCtorEq, false_and, and_false, true_and, and_true, ite_true, ite_false, if_true, if_false, ↓reduceIte, and_self]
        exact ⟨fun z => by omega, fun z => by omega⟩
    · intro m1 m2 m3 m4
      replace m1 : (0 ≤ p ∧ p < (gF G 12 (0) 17)) := m1
      replace m2 : (4 ≤ s ∧ s ≤ 8) := m2
      replace m3 : ((s = 4 ∧ (gA G 206 (0) (p)) = 2) ∨ (s = 5 ∧ ((gA G 206 (0) (p)) = 3 ∨ (gA G 206 (0) (p)) = 4)) ∨ ((s = 6 ∨ s = 7) ∧ (gA G 206 (0) (p)) = 0) ∨ (¬ (4 ≤ s ∧ s ≤ 7) ∧ (gA G 206 (0) (p)) ≤ 4)) := m3
      replace m4 : (gA G 206 (0) (p)) = 0 := m4
      show (some (vI 1) = some (vI 1) ∧ ∃ vz, some (vI 1) = some (vI vz)) ∧ Inv w.1.2 (sA (sA (sA (uA (sF (sF (sF (sF (uA G 35 (0) (filF (fun j0 => (gA G 32 0 (j0)) = p ∧ (gA G 35 0 (j0)) = -1) (fun j0 => (gF G 1 0 2)) (gA G 35 0) (gF G 1 0 3))) 3 (p) 8 (s)) 3 (p) 10 (-1)) 3 (p) 9 ((gF G 1 0 2))) 3 (p) 11 (-1)) 218 (0) (filF (fun j0 => (gA G 215 (0) (j0)) = p ∧ (gA G 218 (0) (j0)) < 0) (fun j0 => (gF G 12 (0) 0)) (gA G 218 0) (gF G 12 (0) 22))) 206 (0) (p) (s)) 213 (0) (p) ((gF G 12 (0) 0))) 214 (0) (p) (-1)) (sA (sA (sA (uA (sF (sF (sF (sF (uA G 35 (0) (filF (fun j0 => (gA G 32 0 (j0)) = p ∧ (gA G 35 0 (j0)) = -1) (fun j0 => (gF G 1 0 2)) (gA G 35 0) (gF G 1 0 3))) 3 (p) 8 (s)) 3 (p) 10 (-1)) 3 (p) 9 ((gF G 1 0 2))) 3 (p) 11 (-1)) 218 (0) (filF (fun j0 => (gA G 215 (0) (j0)) = p ∧ (gA G 218 (0) (j0)) < 0) (fun j0 => (gF G 12 (0) 0)) (gA G 218 0) (gF G 12 (0) 22))) 206 (0) (p) (s)) 213 (0) (p) ((gF G 12 (0) 0))) 214 (0) (p) (-1))
      refine ⟨⟨rfl, _, rfl⟩, iL, ?_, ?_, iF, iO, iE, iT, iR, iB, iX, iH, iG, iQ, iN, iA, ?_⟩
      · skip
        refine IPers_one (p := p) iP rfl rfl rfl rfl rfl rfl rfl (fun _ _ h => h) (fun i e k => by simp only [gF_sF, gF_sA, gF_uA, gF_sD, gA_sF, gA_sA, gA_uA, gA_sD, gD_sF, gD_sA, gD_uA, gD_sD, Nat.reduceEqDiff, reduceCtorEq, false_and, and_false, true_and, and_true, ite_true, ite_false, if_true, if_false, ↓reduceIte, and_self, e]) (fun i => rfl) (fun i _ => rfl) (fun i e c hc1 hc2 => by obtain ⟨n1, n2, n3, n4, n5⟩ := nk214 hc1 hc2; simp only [gF_sF, gF_sA, gF_uA, gF_sD, gA_sF, gA_sA, gA_uA, gA_sD, gD_sF, gD_sA, gD_uA, gD_sD, Nat.reduceEqDiff, reduceCtorEq, false_and, and_false, true_and, and_true, ite_true, ite_false, if_true, if_false, ↓reduceIte, and_self, e, n1, n2, n3, n4, n5]) ?_
        have b := (iP.2.2.2 p (by omega) (by omega))
        refine ⟨b.1, b.2.1, b.2.2.1, b.2.2.2.1, b.2.2.2.2.1, b.2.2.2.2.2.1, b.2.2.2.2.2.2.1, b.2.2.2.2.2.2.2.1, ?_, ?_, ?_, ?_, ?_, ?_⟩
        · (try simp only [gF_sF, gF_sA, gF_uA, gF_sD, gA_sF, gA_sA, gA_uA, gA_sD, gD_sF, gD_sA, gD_uA, gD_sD, Nat.reduceEqDiff, reduceCtorEq, false_and, and_false, true_and, and_true, ite_true, ite_false, if_true, if_false, ↓reduceIte, and_self]) <;> (try intros) <;> (try simp only [true_and]) <;> (try omega)
        · (try simp only [gF_sF, gF_sA, gF_uA, gF_sD, gA_sF, gA_sA, gA_uA, gA_sD, gD_sF, gD_sA, gD_uA, gD_sD, Nat.reduceEqDiff, reduceCtorEq, false_and, and_false, true_and, and_true, ite_true, ite_false, if_true, if_false, ↓reduceIte, and_self]) <;> (try intros) <;> (try simp only [true_and]) <;> (try omega)
        · (try simp only [gF_sF, gF_sA, gF_uA, gF_sD, gA_sF, gA_sA, gA_uA, gA_sD, gD_sF, gD_sA, gD_uA, gD_sD, Nat.reduceEqDiff, reduceCtorEq, false_and, and_false, true_and, and_true, ite_true, ite_false, if_true, if_false, ↓reduceIte, and_self]) <;> (try intros) <;> (try simp only [true_and]) <;> (try omega)
        · (try simp only [gF_sF, gF_sA, gF_uA, gF_sD, gA_sF, gA_sA, gA_uA, gA_sD, gD_sF, gD_sA, gD_uA, gD_sD, Nat.reduceEqDiff, reduceCtorEq, false_and, and_false, true_and, and_true, ite_true, ite_false, if_true, if_false, ↓reduceIte, and_self]) <;> (try intros) <;> (try simp only [true_and]) <;> (try omega)
        · (try simp only [gF_sF, gF_sA, gF_uA, gF_sD, gA_sF, gA_sA, gA_uA, gA_sD, gD_sF, gD_sA, gD_uA, gD_sD, Nat.reduceEqDiff, reduceCtorEq, false_and, and_false, true_and, and_true, ite_true, ite_false, if_true, if_false, ↓reduceIte, and_self]) <;> (try intros) <;> (try simp only [true_and]) <;> (try omega)
        · (try simp only [gF_sF, gF_sA, gF_uA, gF_sD, gA_sF, gA_sA, gA_uA, gA_sD, gD_sF, gD_sA, gD_uA, gD_sD, Nat.reduceEqDiff, reduceCtorEq, false_and, and_false, true_and, and_true, ite_true, ite_false, if_true, if_false, ↓reduceIte, and_self]) <;> (try intros) <;> (try simp only [true_and]) <;> (try omega)
      · refine IStay_leave (p := p) iS hday.1 ed rfl rfl rfl rfl rfl rfl rfl rfl rfl rfl rfl (Or.inl ⟨by omega, rfl⟩) (fun i e => by simp only [gF_sF, gF_sA, gF_uA, gF_sD, gA_sF, gA_sA, gA_uA, gA_sD, gD_sF, gD_sA, gD_uA, gD_sD, Nat.reduceEqDiff, reduceCtorEq, false_and, and_false, true_and, and_true, ite_true, ite_false, if_true, if_false, ↓reduceIte, and_self, e]) ?_
        have hm := cnt_mono (p := owP (sA (sA (sA (uA (sF (sF (sF (sF (uA G 35 0 (filF (fun j0 => (gA G 32 0 (j0)) = p ∧ (gA G 35 0 (j0)) = -1) (fun j0 => (gF G 1 0 2)) (gA G 35 0) (gF G 1 0 3))) 3 (p) 8 (s)) 3 (p) 10 (-1)) 3 (p) 9 ((gF G 1 0 2))) 3 (p) 11 (-1)) 218 0 (filF (fun j0 => (gA G 215 0 (j0)) = p ∧ (gA G 218 0 (j0)) < 0) (fun j0 => (gF G 12 0 0)) (gA G 218 0) (gF G 12 0 22))) 206 0 (p) (s)) 213 0 (p) ((gF G 12 0 0))) 214 0 (p) (-1))) (q := owP G) (n := (gF G 1 0 1)) hsz.1 (fun i _ _ h => ?_)
        · have := iS.1.2.2; omega
        · unfold owP at h ⊢
          by_cases e : i = p
          · rw [e] at h
            revert h
            simp only [gF_sF, gF_sA, gF_uA, gF_sD, gA_sF, gA_sA, gA_uA, gA_sD, gD_sF, gD_sA, gD_uA, gD_sD, Nat.reduceEqDiff, reduceCtorEq, false_and, and_false, true_and, and_true, ite_true, ite_false, if_true, if_false, ↓reduceIte, and_self]
            intro h; omega
          · revert h
            simp only [gF_sF, gF_sA, gF_uA, gF_sD, gA_sF, gA_sA, gA_uA, gA_sD, gD_sF, gD_sA, gD_uA, gD_sD, Nat.reduceEqDiff, reduceCtorEq, false_and, and_false, true_and, and_true, ite_true, ite_false, if_true, if_false, ↓reduceIte, and_self, e]
            exact id
      · refine ISide_one (p := p) iJ rfl rfl (fun i e => ⟨by simp only [gF_sF, gF_sA, gF_uA, gF_sD, gA_sF, gA_sA, gA_uA, gA_sD, gD_sF, gD_sA, gD_uA, gD_sD, Nat.reduceEqDiff, reduceCtorEq, false_and, and_false, true_and, and_true, ite_true, ite_false, if_true, if_false, ↓reduceIte, and_self, e], by simp only [gF_sF, gF_sA, gF_uA, gF_sD, gA_sF, gA_sA, gA_uA, gA_sD, gD_sF, gD_sA, gD_uA, gD_sD, Nat.reduceEqDiff, reduceCtorEq, false_and, and_false, true_and, and_true, ite_true, ite_false, if_true, if_false, ↓reduceIte, and_self, e], by simp only [gF_sF, gF_sA, gF_uA, gF_sD, gA_sF, gA_sA, gA_uA, gA_sD, gD_sF, gD_sA, gD_uA, gD_sD, Nat.reduceEqDiff, reduceCtorEq, false_and, and_false, true_and, and_true, ite_true, ite_false, if_true, if_false, ↓reduceIte, and_self]⟩) ?_
        unfold sideOk
        simp only [gF_sF, gF_sA, gF_uA, gF_sD, gA_sF, gA_sA, gA_uA, gA_sD, gD_sF, gD_sA, gD_uA, gD_sD, Nat.reduceEqDiff, reduceCtorEq, false_and, and_false, true_and, and_true, ite_true, ite_false, if_true, if_false, ↓reduceIte, and_self]
        exact ⟨fun z => by omega, fun z => by omega⟩
set_option maxRecDepth 10000 in
theorem call_move {l : Launch} {w : Wo} {d : Nat} {G : PH} (hI : Inv w.1.2 G G) {p : Int} {t : Int} : CallOk l w d M_X11_move M_X12_move [some (vR 11 (0)), some (vI (p)), some (vI (t))] [some (vR 12 (0)), some (vI (p)), some (vI (t)), none] G := by
  obtain ⟨iL, iP, iS, iF, iO, iE, iT, iR, iB, iX, iH, iG, iQ, iN, iA, iJ⟩ := hI
  have hc : 0 ≤ (gF G 2 0 2) ∧ (gF G 2 0 2) ≤ 16 := ⟨iL.1.1, iL.1.2.1⟩
  have ec : (gF G 12 0 3) = (gF G 2 0 2) := iL.1.2.2
  have mhc : 0 ≤ (gF G 12 0 3) ∧ (gF G 12 0 3) ≤ 16 := by omega
  have hr : ∀ k, 0 ≤ k → k < 324 → 0 ≤ (gA G 43 0 (k)) ∧ (gA G 43 0 (k)) ≤ 9 := fun k a b => (iL.2.2.1 k a b).2
  have mhr : ∀ k, 0 ≤ k → k < 324 → 0 ≤ (gA G 202 0 (k)) ∧ (gA G 202 0 (k)) ≤ 9 := fun k a b => by have := iL.2.2.1 k a b; omega
  have hsz : 0 ≤ (gF G 1 0 1) ∧ (gF G 1 0 1) ≤ 150 := by have := iP.1; omega
  have ep : (gF G 12 0 17) = (gF G 1 0 1) := iP.1.2.2
  have mhsz : 0 ≤ (gF G 12 0 17) ∧ (gF G 12 0 17) ≤ 150 := by omega
  have hp : ∀ i, 0 ≤ i → i < (gF G 1 0 1) → gD G 30 0 i = some (3, i) := fun i a b => (iP.2.2.2 i a b).1.1
  have hcw := cnt_le (owP G) hsz.1
  have es : (gF G 12 0 22) = (gF G 1 0 3) := iS.1.1
  have hst : 0 ≤ (gF G 1 0 3) ∧ (gF G 1 0 3) ≤ 400 := by have := iS.1; omega
  have mhst : 0 ≤ (gF G 12 0 22) ∧ (gF G 12 0 22) ≤ 400 := by omega
  have hday : 0 ≤ (gF G 1 0 2) ∧ (gF G 1 0 2) ≤ 600 := iP.2.1.2
  have ed : (gF G 12 0 0) = (gF G 1 0 2) := iP.2.1.1
  have hpf := pf iP p
  have hbt : ¬ (0 ≤ t ∧ t < (gF G 2 0 2)) ∨ ((gA G 200 0 (t)) = (gA G 41 0 (t)) ∧ (gA G 201 0 (t)) = (gA G 42 0 (t))) := by
    by_cases q : 0 ≤ t ∧ t < (gF G 2 0 2)
    · have := iL.2.1 t q.1 q.2; omega
    · exact Or.inl q
  have hcb := inbeds_eq iP t
  have how := onway_eq iP hc.2
  have hor := onroad_eq iP hc.2
  have hroom := iS.1.2.2
  have hnum : (0 ≤ p ∧ p < (gF G 1 0 1)) → (gF G 3 (p) 0) = p := fun _ => by omega
  have hpl : (0 ≤ p ∧ p < (gF G 1 0 1)) → (gF G 3 (p) 8) = 0 → 0 ≤ (gF G 3 (p) 10) ∧ (gF G 3 (p) 10) < (gF G 2 0 2) := fun _ _ => by omega
  have mhpl : (0 ≤ p ∧ p < (gF G 12 0 17)) → (gA G 206 0 (p)) = 0 → 0 ≤ (gA G 207 0 (p)) ∧ (gA G 207 0 (p)) < (gF G 12 0 3) := fun _ _ => by omega
  have mhday : 0 ≤ (gF G 12 0 0) ∧ (gF G 12 0 0) ≤ 600 := by omega
  unfold CallOk CallPhi
  refine sp_X11_move (d := d + 996) (by first | assumption | exact hp | omega) (by first | assumption | exact hsz | omega) (by first | assumption | exact hst | omega) (by first | assumption | exact hnum | omega) (by first | assumption | exact hpl | omega) (by first | assumption | exact hday | omega) (by first | assumption | exact hc | omega) (by first | assumption | exact hr | omega) ?_ ?_ ?_ ?_ ?_
  · intro c1
    refine sp_X12_move (d := d + 998) (by first | assumption | exact mhsz | omega) (by first | assumption | exact mhst | omega) (by first | assumption | exact mhpl | omega) (by first | assumption | exact mhday | omega) (by first | assumption | exact mhc | omega) (by first | assumption | exact mhr | omega) ?_ ?_ ?_ ?_ ?_
    · intro m1
      replace m1 : ¬ ((0 ≤ p ∧ p < (gF G 12 (0) 17)) ∧ ((0 ≤ t ∧ t < (gF G 12 (0) 3)) ∨ t = 16 ∨ t = 17)) := m1
      exact ⟨⟨rfl, _, rfl⟩, iL, iP, iS, iF, iO, iE, iT, iR, iB, iX, iH, iG, iQ, iN, iA, iJ⟩
    · intro m1 m2 m3
      replace m1 : (0 ≤ p ∧ p < (gF G 12 (0) 17)) := m1
      replace m2 : ((0 ≤ t ∧ t < (gF G 12 (0) 3)) ∨ t = 16 ∨ t = 17) := m2
      replace m3 : ¬ ((gA G 206 (0) (p)) = 0 ∧ (gA G 207 (0) (p)) ≠ t ∧ (16 ≤ t ∨ ((gA G 200 (0) (t)) = (gA G 205 (0) (p)) ∧ cnt (fun i => (gA G 206 (0) (i)) ≤ 1 ∧ (gA G 207 (0) (i)) = t) (gF G 12 (0) 17) < (gA G 201 (0) (t))))) := m3
      exfalso; omega
    · intro m1 m2 m3 Dm m4 m5
      replace m1 : (0 ≤ p ∧ p < (gF G 12 (0) 17)) := m1
      replace m2 : ((0 ≤ t ∧ t < (gF G 12 (0) 3)) ∨ t = 16 ∨ t = 17) := m2
      replace m3 : ((gA G 206 (0) (p)) = 0 ∧ (gA G 207 (0) (p)) ≠ t ∧ (16 ≤ t ∨ ((gA G 200 (0) (t)) = (gA G 205 (0) (p)) ∧ cnt (fun i => (gA G 206 (0) (i)) ≤ 1 ∧ (gA G 207 (0) (i)) = t) (gF G 12 (0) 17) < (gA G 201 (0) (t))))) := m3
      replace m4 : IsD (fun u v => (gA G 202 (0) (18 * u + v))) (fun u => u = (gA G 207 (0) (p)) ∨ 16 ≤ u ∨ (gA G 200 (0) (u)) = (gA G 200 (0) ((gA G 207 (0) (p))))) (gA G 207 (0) (p)) 100000 Dm := m4
      replace m5 : 100000 ≤ Dm t := m5
      exfalso; omega
    · intro m1 m2 m3 Dm m4 m5 m6 m7
      replace m1 : (0 ≤ p ∧ p < (gF G 12 (0) 17)) := m1
      replace m2 : ((0 ≤ t ∧ t < (gF G 12 (0) 3)) ∨ t = 16 ∨ t = 17) := m2
      replace m3 : ((gA G 206 (0) (p)) = 0 ∧ (gA G 207 (0) (p)) ≠ t ∧ (16 ≤ t ∨ ((gA G 200 (0) (t)) = (gA G 205 (0) (p)) ∧ cnt (fun i => (gA G 206 (0) (i)) ≤ 1 ∧ (gA G 207 (0) (i)) = t) (gF G 12 (0) 17) < (gA G 201 (0) (t))))) := m3
      replace m4 : IsD (fun u v => (gA G 202 (0) (18 * u + v))) (fun u => u = (gA G 207 (0) (p)) ∨ 16 ≤ u ∨ (gA G 200 (0) (u)) = (gA G 200 (0) ((gA G 207 (0) (p))))) (gA G 207 (0) (p)) 100000 Dm := m4
      replace m5 : Dm t < 100000 := m5
      replace m6 : t < 16 := m6
      replace m7 : (gF G 12 (0) 22) + cnt (fun i => (gA G 206 (0) (i)) = 1 ∧ (gA G 207 (0) (i)) < 16) (gF G 12 (0) 17) = 400 := m7
      exfalso; omega
    · intro m1 m2 m3 Dm m4 m5 m6
      replace m1 : (0 ≤ p ∧ p < (gF G 12 (0) 17)) := m1
      replace m2 : ((0 ≤ t ∧ t < (gF G 12 (0) 3)) ∨ t = 16 ∨ t = 17) := m2
      replace m3 : ((gA G 206 (0) (p)) = 0 ∧ (gA G 207 (0) (p)) ≠ t ∧ (16 ≤ t ∨ ((gA G 200 (0) (t)) = (gA G 205 (0) (p)) ∧ cnt (fun i => (gA G 206 (0) (i)) ≤ 1 ∧ (gA G 207 (0) (i)) = t) (gF G 12 (0) 17) < (gA G 201 (0) (t))))) := m3
      replace m4 : IsD (fun u v => (gA G 202 (0) (18 * u + v))) (fun u => u = (gA G 207 (0) (p)) ∨ 16 ≤ u ∨ (gA G 200 (0) (u)) = (gA G 200 (0) ((gA G 207 (0) (p))))) (gA G 207 (0) (p)) 100000 Dm := m4
      replace m5 : Dm t < 100000 := m5
      replace m6 : (16 ≤ t ∨ (gF G 12 (0) 22) + cnt (fun i => (gA G 206 (0) (i)) = 1 ∧ (gA G 207 (0) (i)) < 16) (gF G 12 (0) 17) ≠ 400) := m6
      exfalso; omega
  · intro c1 c2 c3
    refine sp_X12_move (d := d + 998) (by first | assumption | exact mhsz | omega) (by first | assumption | exact mhst | omega) (by first | assumption | exact mhpl | omega) (by first | assumption | exact mhday | omega) (by first | assumption | exact mhc | omega) (by first | assumption | exact mhr | omega) ?_ ?_ ?_ ?_ ?_
    · intro m1
      replace m1 : ¬ ((0 ≤ p ∧ p < (gF G 12 (0) 17)) ∧ ((0 ≤ t ∧ t < (gF G 12 (0) 3)) ∨ t = 16 ∨ t = 17)) := m1
      exfalso; omega
    · intro m1 m2 m3
      replace m1 : (0 ≤ p ∧ p < (gF G 12 (0) 17)) := m1
      replace m2 : ((0 ≤ t ∧ t < (gF G 12 (0) 3)) ∨ t = 16 ∨ t = 17) := m2
      replace m3 : ¬ ((gA G 206 (0) (p)) = 0 ∧ (gA G 207 (0) (p)) ≠ t ∧ (16 ≤ t ∨ ((gA G 200 (0) (t)) = (gA G 205 (0) (p)) ∧ cnt (fun i => (gA G 206 (0) (i)) ≤ 1 ∧ (gA G 207 (0) (i)) = t) (gF G 12 (0) 17) < (gA G 201 (0) (t))))) := m3
      exact ⟨⟨rfl, _, rfl⟩, iL, iP, iS, iF, iO, iE, iT, iR, iB, iX, iH, iG, iQ, iN, iA, iJ⟩
    · intro m1 m2 m3 Dm m4 m5
      replace m1 : (0 ≤ p ∧ p < (gF G 12 (0) 17)) := m1
      replace m2 : ((0 ≤ t ∧ t < (gF G 12 (0) 3)) ∨ t = 16 ∨ t = 17) := m2
      replace m3 : ((gA G 206 (0) (p)) = 0 ∧ (gA G 207 (0) (p)) ≠ t ∧ (16 ≤ t ∨ ((gA G 200 (0) (t)) = (gA G 205 (0) (p)) ∧ cnt (fun i => (gA G 206 (0) (i)) ≤ 1 ∧ (gA G 207 (0) (i)) = t) (gF G 12 (0) 17) < (gA G 201 (0) (t))))) := m3
      replace m4 : IsD (fun u v => (gA G 202 (0) (18 * u + v))) (fun u => u = (gA G 207 (0) (p)) ∨ 16 ≤ u ∨ (gA G 200 (0) (u)) = (gA G 200 (0) ((gA G 207 (0) (p))))) (gA G 207 (0) (p)) 100000 Dm := m4
      replace m5 : 100000 ≤ Dm t := m5
      exfalso; omega
    · intro m1 m2 m3 Dm m4 m5 m6 m7
      replace m1 : (0 ≤ p ∧ p < (gF G 12 (0) 17)) := m1
      replace m2 : ((0 ≤ t ∧ t < (gF G 12 (0) 3)) ∨ t = 16 ∨ t = 17) := m2
      replace m3 : ((gA G 206 (0) (p)) = 0 ∧ (gA G 207 (0) (p)) ≠ t ∧ (16 ≤ t ∨ ((gA G 200 (0) (t)) = (gA G 205 (0) (p)) ∧ cnt (fun i => (gA G 206 (0) (i)) ≤ 1 ∧ (gA G 207 (0) (i)) = t) (gF G 12 (0) 17) < (gA G 201 (0) (t))))) := m3
      replace m4 : IsD (fun u v => (gA G 202 (0) (18 * u + v))) (fun u => u = (gA G 207 (0) (p)) ∨ 16 ≤ u ∨ (gA G 200 (0) (u)) = (gA G 200 (0) ((gA G 207 (0) (p))))) (gA G 207 (0) (p)) 100000 Dm := m4
      replace m5 : Dm t < 100000 := m5
      replace m6 : t < 16 := m6
      replace m7 : (gF G 12 (0) 22) + cnt (fun i => (gA G 206 (0) (i)) = 1 ∧ (gA G 207 (0) (i)) < 16) (gF G 12 (0) 17) = 400 := m7
      exfalso; omega
    · intro m1 m2 m3 Dm m4 m5 m6
      replace m1 : (0 ≤ p ∧ p < (gF G 12 (0) 17)) := m1
      replace m2 : ((0 ≤ t ∧ t < (gF G 12 (0) 3)) ∨ t = 16 ∨ t = 17) := m2
      replace m3 : ((gA G 206 (0) (p)) = 0 ∧ (gA G 207 (0) (p)) ≠ t ∧ (16 ≤ t ∨ ((gA G 200 (0) (t)) = (gA G 205 (0) (p)) ∧ cnt (fun i => (gA G 206 (0) (i)) ≤ 1 ∧ (gA G 207 (0) (i)) = t) (gF G 12 (0) 17) < (gA G 201 (0) (t))))) := m3
      replace m4 : IsD (fun u v => (gA G 202 (0) (18 * u + v))) (fun u => u = (gA G 207 (0) (p)) ∨ 16 ≤ u ∨ (gA G 200 (0) (u)) = (gA G 200 (0) ((gA G 207 (0) (p))))) (gA G 207 (0) (p)) 100000 Dm := m4
      replace m5 : Dm t < 100000 := m5
      replace m6 : (16 ≤ t ∨ (gF G 12 (0) 22) + cnt (fun i => (gA G 206 (0) (i)) = 1 ∧ (gA G 207 (0) (i)) < 16) (gF G 12 (0) 17) ≠ 400) := m6
      exfalso; omega
  · intro c1 c2 c3 Dr fr c4 c5 c6
    refine sp_X12_move (d := d + 998) (by first | assumption | exact mhsz | omega) (by first | assumption | exact mhst | omega) (by first | assumption | exact mhpl | omega) (by first | assumption | exact mhday | omega) (by first | assumption | exact mhc | omega) (by first | assumption | exact mhr | omega) ?_ ?_ ?_ ?_ ?_
    · intro m1
      replace m1 : ¬ ((0 ≤ p ∧ p < (gF G 12 (0) 17)) ∧ ((0 ≤ t ∧ t < (gF G 12 (0) 3)) ∨ t = 16 ∨ t = 17)) := m1
      exfalso; omega
    · intro m1 m2 m3
      replace m1 : (0 ≤ p ∧ p < (gF G 12 (0) 17)) := m1
      replace m2 : ((0 ≤ t ∧ t < (gF G 12 (0) 3)) ∨ t = 16 ∨ t = 17) := m2
      replace m3 : ¬ ((gA G 206 (0) (p)) = 0 ∧ (gA G 207 (0) (p)) ≠ t ∧ (16 ≤ t ∨ ((gA G 200 (0) (t)) = (gA G 205 (0) (p)) ∧ cnt (fun i => (gA G 206 (0) (i)) ≤ 1 ∧ (gA G 207 (0) (i)) = t) (gF G 12 (0) 17) < (gA G 201 (0) (t))))) := m3
      exfalso; omega
    · intro m1 m2 m3 Dm m4 m5
      replace m1 : (0 ≤ p ∧ p < (gF G 12 (0) 17)) := m1
      replace m2 : ((0 ≤ t ∧ t < (gF G 12 (0) 3)) ∨ t = 16 ∨ t = 17) := m2
      replace m3 : ((gA G 206 (0) (p)) = 0 ∧ (gA G 207 (0) (p)) ≠ t ∧ (16 ≤ t ∨ ((gA G 200 (0) (t)) = (gA G 205 (0) (p)) ∧ cnt (fun i => (gA G 206 (0) (i)) ≤ 1 ∧ (gA G 207 (0) (i)) = t) (gF G 12 (0) 17) < (gA G 201 (0) (t))))) := m3
      replace m4 : IsD (fun u v => (gA G 202 (0) (18 * u + v))) (fun u => u = (gA G 207 (0) (p)) ∨ 16 ≤ u ∨ (gA G 200 (0) (u)) = (gA G 200 (0) ((gA G 207 (0) (p))))) (gA G 207 (0) (p)) 100000 Dm := m4
      replace m5 : 100000 ≤ Dm t := m5
      show (some (vI (-4)) = some (vI (-4)) ∧ ∃ vz, some (vI (-4)) = some (vI vz)) ∧ Inv w.1.2 (uA (uA (uA G 44 (0) (Dr)) 45 (0) (fr)) 234 (0) (Dm)) (uA (uA (uA G 44 (0) (Dr)) 45 (0) (fr)) 234 (0) (Dm))
      have hfp := far_pair iL (t := t) (by omega) (by omega) (by omega) (by omega) c4 c5 m4
      exact ⟨⟨rfl, _, rfl⟩, iL, iP, iS, iF, iO, iE, iT, iR, iB, iX, iH, iG, iQ, iN, iA, iJ⟩
    · intro m1 m2 m3 Dm m4 m5 m6 m7
      replace m1 : (0 ≤ p ∧ p < (gF G 12 (0) 17)) := m1
      replace m2 : ((0 ≤ t ∧ t < (gF G 12 (0) 3)) ∨ t = 16 ∨ t = 17) := m2
      replace m3 : ((gA G 206 (0) (p)) = 0 ∧ (gA G 207 (0) (p)) ≠ t ∧ (16 ≤ t ∨ ((gA G 200 (0) (t)) = (gA G 205 (0) (p)) ∧ cnt (fun i => (gA G 206 (0) (i)) ≤ 1 ∧ (gA G 207 (0) (i)) = t) (gF G 12 (0) 17) < (gA G 201 (0) (t))))) := m3
      replace m4 : IsD (fun u v => (gA G 202 (0) (18 * u + v))) (fun u => u = (gA G 207 (0) (p)) ∨ 16 ≤ u ∨ (gA G 200 (0) (u)) = (gA G 200 (0) ((gA G 207 (0) (p))))) (gA G 207 (0) (p)) 100000 Dm := m4
      replace m5 : Dm t < 100000 := m5
      replace m6 : t < 16 := m6
      replace m7 : (gF G 12 (0) 22) + cnt (fun i => (gA G 206 (0) (i)) = 1 ∧ (gA G 207 (0) (i)) < 16) (gF G 12 (0) 17) = 400 := m7
      show (some (vI (-2)) = some (vI (-4)) ∧ ∃ vz, some (vI (-4)) = some (vI vz)) ∧ Inv w.1.2 (uA (uA (uA G 44 (0) (Dr)) 45 (0) (fr)) 234 (0) (Dm)) (uA (uA (uA G 44 (0) (Dr)) 45 (0) (fr)) 234 (0) (Dm))
      have hfp := far_pair iL (t := t) (by omega) (by omega) (by omega) (by omega) c4 c5 m4
      exfalso; omega
    · intro m1 m2 m3 Dm m4 m5 m6
      replace m1 : (0 ≤ p ∧ p < (gF G 12 (0) 17)) := m1
      replace m2 : ((0 ≤ t ∧ t < (gF G 12 (0) 3)) ∨ t = 16 ∨ t = 17) := m2
      replace m3 : ((gA G 206 (0) (p)) = 0 ∧ (gA G 207 (0) (p)) ≠ t ∧ (16 ≤ t ∨ ((gA G 200 (0) (t)) = (gA G 205 (0) (p)) ∧ cnt (fun i => (gA G 206 (0) (i)) ≤ 1 ∧ (gA G 207 (0) (i)) = t) (gF G 12 (0) 17) < (gA G 201 (0) (t))))) := m3
      replace m4 : IsD (fun u v => (gA G 202 (0) (18 * u + v))) (fun u => u = (gA G 207 (0) (p)) ∨ 16 ≤ u ∨ (gA G 200 (0) (u)) = (gA G 200 (0) ((gA G 207 (0) (p))))) (gA G 207 (0) (p)) 100000 Dm := m4
      replace m5 : Dm t < 100000 := m5
      replace m6 : (16 ≤ t ∨ (gF G 12 (0) 22) + cnt (fun i => (gA G 206 (0) (i)) = 1 ∧ (gA G 207 (0) (i)) < 16) (gF G 12 (0) 17) ≠ 400) := m6
      show (some (vI ((gF G 12 (0) 0) + Dm t)) = some (vI (-4)) ∧ ∃ vz, some (vI (-4)) = some (vI vz)) ∧ Inv w.1.2 (sA (sA (sA (sA (sA (uA (uA (uA (uA G 44 (0) (Dr)) 45 (0) (fr)) 234 (0) (Dm)) 218 (0) (filF (fun j0 => (gA G 215 (0) (j0)) = p ∧ (gA G 218 (0) (j0)) < 0) (fun j0 => (gF G 12 (0) 0)) (gA G 218 0) (gF G 12 (0) 22))) 206 (0) (p) (1)) 213 (0) (p) ((gF G 12 (0) 0))) 214 (0) (p) (-1)) 207 (0) (p) (t)) 214 (0) (p) ((gF G 12 (0) 0) + Dm t)) (sA (sA (sA (sA (sA (uA (uA (uA (uA G 44 (0) (Dr)) 45 (0) (fr)) 234 (0) (Dm)) 218 (0) (filF (fun j0 => (gA G 215 (0) (j0)) = p ∧ (gA G 218 (0) (j0)) < 0) (fun j0 => (gF G 12 (0) 0)) (gA G 218 0) (gF G 12 (0) 22))) 206 (0) (p) (1)) 213 (0) (p) ((gF G 12 (0) 0))) 214 (0) (p) (-1)) 207 (0) (p) (t)) 214 (0) (p) ((gF G 12 (0) 0) + Dm t))
      have hfp := far_pair iL (t := t) (by omega) (by omega) (by omega) (by omega) c4 c5 m4
      exfalso; omega
  · intro c1 c2 c3 Dr fr c4 c5 c6 c7 c8
    refine sp_X12_move (d := d + 998) (by first | assumption | exact mhsz | omega) (by first | assumption | exact mhst | omega) (by first | assumption | exact mhpl | omega) (by first | assumption | exact mhday | omega) (by first | assumption | exact mhc | omega) (by first | assumption | exact mhr | omega) ?_ ?_ ?_ ?_ ?_
    · intro m1
      replace m1 : ¬ ((0 ≤ p ∧ p < (gF G 12 (0) 17)) ∧ ((0 ≤ t ∧ t < (gF G 12 (0) 3)) ∨ t = 16 ∨ t = 17)) := m1
      exfalso; omega
    · intro m1 m2 m3
      replace m1 : (0 ≤ p ∧ p < (gF G 12 (0) 17)) := m1
      replace m2 : ((0 ≤ t ∧ t < (gF G 12 (0) 3)) ∨ t = 16 ∨ t = 17) := m2
      replace m3 : ¬ ((gA G 206 (0) (p)) = 0 ∧ (gA G 207 (0) (p)) ≠ t ∧ (16 ≤ t ∨ ((gA G 200 (0) (t)) = (gA G 205 (0) (p)) ∧ cnt (fun i => (gA G 206 (0) (i)) ≤ 1 ∧ (gA G 207 (0) (i)) = t) (gF G 12 (0) 17) < (gA G 201 (0) (t))))) := m3
      exfalso; omega
    · intro m1 m2 m3 Dm m4 m5
      replace m1 : (0 ≤ p ∧ p < (gF G 12 (0) 17)) := m1
      replace m2 : ((0 ≤ t ∧ t < (gF G 12 (0) 3)) ∨ t = 16 ∨ t = 17) := m2
      replace m3 : ((gA G 206 (0) (p)) = 0 ∧ (gA G 207 (0) (p)) ≠ t ∧ (16 ≤ t ∨ ((gA G 200 (0) (t)) = (gA G 205 (0) (p)) ∧ cnt (fun i => (gA G 206 (0) (i)) ≤ 1 ∧ (gA G 207 (0) (i)) = t) (gF G 12 (0) 17) < (gA G 201 (0) (t))))) := m3
      replace m4 : IsD (fun u v => (gA G 202 (0) (18 * u + v))) (fun u => u = (gA G 207 (0) (p)) ∨ 16 ≤ u ∨ (gA G 200 (0) (u)) = (gA G 200 (0) ((gA G 207 (0) (p))))) (gA G 207 (0) (p)) 100000 Dm := m4
      replace m5 : 100000 ≤ Dm t := m5
      show (some (vI (-4)) = some (vI (-2)) ∧ ∃ vz, some (vI (-2)) = some (vI vz)) ∧ Inv w.1.2 (uA (uA (uA G 44 (0) (Dr)) 45 (0) (fr)) 234 (0) (Dm)) (uA (uA (uA G 44 (0) (Dr)) 45 (0) (fr)) 234 (0) (Dm))
      have hfp := far_pair iL (t := t) (by omega) (by omega) (by omega) (by omega) c4 c5 m4
      exfalso; omega
    · intro m1 m2 m3 Dm m4 m5 m6 m7
      replace m1 : (0 ≤ p ∧ p < (gF G 12 (0) 17)) := m1
      replace m2 : ((0 ≤ t ∧ t < (gF G 12 (0) 3)) ∨ t = 16 ∨ t = 17) := m2
      replace m3 : ((gA G 206 (0) (p)) = 0 ∧ (gA G 207 (0) (p)) ≠ t ∧ (16 ≤ t ∨ ((gA G 200 (0) (t)) = (gA G 205 (0) (p)) ∧ cnt (fun i => (gA G 206 (0) (i)) ≤ 1 ∧ (gA G 207 (0) (i)) = t) (gF G 12 (0) 17) < (gA G 201 (0) (t))))) := m3
      replace m4 : IsD (fun u v => (gA G 202 (0) (18 * u + v))) (fun u => u = (gA G 207 (0) (p)) ∨ 16 ≤ u ∨ (gA G 200 (0) (u)) = (gA G 200 (0) ((gA G 207 (0) (p))))) (gA G 207 (0) (p)) 100000 Dm := m4
      replace m5 : Dm t < 100000 := m5
      replace m6 : t < 16 := m6
      replace m7 : (gF G 12 (0) 22) + cnt (fun i => (gA G 206 (0) (i)) = 1 ∧ (gA G 207 (0) (i)) < 16) (gF G 12 (0) 17) = 400 := m7
      show (some (vI (-2)) = some (vI (-2)) ∧ ∃ vz, some (vI (-2)) = some (vI vz)) ∧ Inv w.1.2 (uA (uA (uA G 44 (0) (Dr)) 45 (0) (fr)) 234 (0) (Dm)) (uA (uA (uA G 44 (0) (Dr)) 45 (0) (fr)) 234 (0) (Dm))
      have hfp := far_pair iL (t := t) (by omega) (by omega) (by omega) (by omega) c4 c5 m4
      exact ⟨⟨rfl, _, rfl⟩, iL, iP, iS, iF, iO, iE, iT, iR, iB, iX, iH, iG, iQ, iN, iA, iJ⟩
    · intro m1 m2 m3 Dm m4 m5 m6
      replace m1 : (0 ≤ p ∧ p < (gF G 12 (0) 17)) := m1
      replace m2 : ((0 ≤ t ∧ t < (gF G 12 (0) 3)) ∨ t = 16 ∨ t = 17) := m2
      replace m3 : ((gA G 206 (0) (p)) = 0 ∧ (gA G 207 (0) (p)) ≠ t ∧ (16 ≤ t ∨ ((gA G 200 (0) (t)) = (gA G 205 (0) (p)) ∧ cnt (fun i => (gA G 206 (0) (i)) ≤ 1 ∧ (gA G 207 (0) (i)) = t) (gF G 12 (0) 17) < (gA G 201 (0) (t))))) := m3
      replace m4 : IsD (fun u v => (gA G 202 (0) (18 * u + v))) (fun u => u = (gA G 207 (0) (p)) ∨ 16 ≤ u ∨ (gA G 200 (0) (u)) = (gA G 200 (0) ((gA G 207 (0) (p))))) (gA G 207 (0) (p)) 100000 Dm := m4
      replace m5 : Dm t < 100000 := m5
      replace m6 : (16 ≤ t ∨ (gF G 12 (0) 22) + cnt (fun i => (gA G 206 (0) (i)) = 1 ∧ (gA G 207 (0) (i)) < 16) (gF G 12 (0) 17) ≠ 400) := m6
      show (some (vI ((gF G 12 (0) 0) + Dm t)) = some (vI (-2)) ∧ ∃ vz, some (vI (-2)) = some (vI vz)) ∧ Inv w.1.2 (sA (sA (sA (sA (sA (uA (uA (uA (uA G 44 (0) (Dr)) 45 (0) (fr)) 234 (0) (Dm)) 218 (0) (filF (fun j0 => (gA G 215 (0) (j0)) = p ∧ (gA G 218 (0) (j0)) < 0) (fun j0 => (gF G 12 (0) 0)) (gA G 218 0) (gF G 12 (0) 22))) 206 (0) (p) (1)) 213 (0) (p) ((gF G 12 (0) 0))) 214 (0) (p) (-1)) 207 (0) (p) (t)) 214 (0) (p) ((gF G 12 (0) 0) + Dm t)) (sA (sA (sA (sA (sA (uA (uA (uA (uA G 44 (0) (Dr)) 45 (0) (fr)) 234 (0) (Dm)) 218 (0) (filF (fun j0 => (gA G 215 (0) (j0)) = p ∧ (gA G 218 (0) (j0)) < 0) (fun j0 => (gF G 12 (0) 0)) (gA G 218 0) (gF G 12 (0) 22))) 206 (0) (p) (1)) 213 (0) (p) ((gF G 12 (0) 0))) 214 (0) (p) (-1)) 207 (0) (p) (t)) 214 (0) (p) ((gF G 12 (0) 0) + Dm t))
      have hfp := far_pair iL (t := t) (by omega) (by omega) (by omega) (by omega) c4 c5 m4
      exfalso; omega
  · intro c1 c2 c3 Dr fr c4 c5 c6 c7 r c8
    refine sp_X12_move (d := d + 998) (by first | assumption | exact mhsz | omega) (by first | assumption | exact mhst | omega) (by first | assumption | exact mhpl | omega) (by first | assumption | exact mhday | omega) (by first | assumption | exact mhc | omega) (by first | assumption | exact mhr | omega) ?_ ?_ ?_ ?_ ?_
    · intro m1
      replace m1 : ¬ ((0 ≤ p ∧ p < (gF G 12 (0) 17)) ∧ ((0 ≤ t ∧ t < (gF G 12 (0) 3)) ∨ t = 16 ∨ t = 17)) := m1
      exfalso; omega
    · intro m1 m2 m3
      replace m1 : (0 ≤ p ∧ p < (gF G 12 (0) 17)) := m1
      replace m2 : ((0 ≤ t ∧ t < (gF G 12 (0) 3)) ∨ t = 16 ∨ t = 17) := m2
      replace m3 : ¬ ((gA G 206 (0) (p)) = 0 ∧ (gA G 207 (0) (p)) ≠ t ∧ (16 ≤ t ∨ ((gA G 200 (0) (t)) = (gA G 205 (0) (p)) ∧ cnt (fun i => (gA G 206 (0) (i)) ≤ 1 ∧ (gA G 207 (0) (i)) = t) (gF G 12 (0) 17) < (gA G 201 (0) (t))))) := m3
      exfalso; omega
    · intro m1 m2 m3 Dm m4 m5
      replace m1 : (0 ≤ p ∧ p < (gF G 12 (0) 17)) := m1
      replace m2 : ((0 ≤ t ∧ t < (gF G 12 (0) 3)) ∨ t = 16 ∨ t = 17) := m2
      replace m3 : ((gA G 206 (0) (p)) = 0 ∧ (gA G 207 (0) (p)) ≠ t ∧ (16 ≤ t ∨ ((gA G 200 (0) (t)) = (gA G 205 (0) (p)) ∧ cnt (fun i => (gA G 206 (0) (i)) ≤ 1 ∧ (gA G 207 (0) (i)) = t) (gF G 12 (0) 17) < (gA G 201 (0) (t))))) := m3
      replace m4 : IsD (fun u v => (gA G 202 (0) (18 * u + v))) (fun u => u = (gA G 207 (0) (p)) ∨ 16 ≤ u ∨ (gA G 200 (0) (u)) = (gA G 200 (0) ((gA G 207 (0) (p))))) (gA G 207 (0) (p)) 100000 Dm := m4
      replace m5 : 100000 ≤ Dm t := m5
      show (some (vI (-4)) = some (vI ((gF G 1 0 2) + r)) ∧ ∃ vz, some (vI ((gF G 1 0 2) + r)) = some (vI vz)) ∧ Inv w.1.2 (uA (sF (sF (sF (sF (sF (sF (uA (uA (uA G 44 (0) (Dr)) 45 (0) (fr)) 35 (0) (filF (fun j0 => (gA G 32 0 (j0)) = p ∧ (gA G 35 0 (j0)) = -1) (fun j0 => (gF G 1 0 2)) (gA G 35 0) (gF G 1 0 3))) 3 (p) 8 (1)) 3 (p) 10 (-1)) 3 (p) 9 ((gF G 1 0 2))) 3 (p) 11 (-1)) 3 (p) 10 (t)) 3 (p) 11 ((gF G 1 0 2) + r)) 234 (0) (Dm)) (uA (sF (sF (sF (sF (sF (sF (uA (uA (uA G 44 (0) (Dr)) 45 (0) (fr)) 35 (0) (filF (fun j0 => (gA G 32 0 (j0)) = p ∧ (gA G 35 0 (j0)) = -1) (fun j0 => (gF G 1 0 2)) (gA G 35 0) (gF G 1 0 3))) 3 (p) 8 (1)) 3 (p) 10 (-1)) 3 (p) 9 ((gF G 1 0 2))) 3 (p) 11 (-1)) 3 (p) 10 (t)) 3 (p) 11 ((gF G 1 0 2) + r)) 234 (0) (Dm))
      have hfp := far_pair iL (t := t) (by omega) (by omega) (by omega) (by omega) c4 c5 m4
      exfalso; omega
    · intro m1 m2 m3 Dm m4 m5 m6 m7
      replace m1 : (0 ≤ p ∧ p < (gF G 12 (0) 17)) := m1
      replace m2 : ((0 ≤ t ∧ t < (gF G 12 (0) 3)) ∨ t = 16 ∨ t = 17) := m2
      replace m3 : ((gA G 206 (0) (p)) = 0 ∧ (gA G 207 (0) (p)) ≠ t ∧ (16 ≤ t ∨ ((gA G 200 (0) (t)) = (gA G 205 (0) (p)) ∧ cnt (fun i => (gA G 206 (0) (i)) ≤ 1 ∧ (gA G 207 (0) (i)) = t) (gF G 12 (0) 17) < (gA G 201 (0) (t))))) := m3
      replace m4 : IsD (fun u v => (gA G 202 (0) (18 * u + v))) (fun u => u = (gA G 207 (0) (p)) ∨ 16 ≤ u ∨ (gA G 200 (0) (u)) = (gA G 200 (0) ((gA G 207 (0) (p))))) (gA G 207 (0) (p)) 100000 Dm := m4
      replace m5 : Dm t < 100000 := m5
      replace m6 : t < 16 := m6
      replace m7 : (gF G 12 (0) 22) + cnt (fun i => (gA G 206 (0) (i)) = 1 ∧ (gA G 207 (0) (i)) < 16) (gF G 12 (0) 17) = 400 := m7
      show (some (vI (-2)) = some (vI ((gF G 1 0 2) + r)) ∧ ∃ vz, some (vI ((gF G 1 0 2) + r)) = some (vI vz)) ∧ Inv w.1.2 (uA (sF (sF (sF (sF (sF (sF (uA (uA (uA G 44 (0) (Dr)) 45 (0) (fr)) 35 (0) (filF (fun j0 => (gA G 32 0 (j0)) = p ∧ (gA G 35 0 (j0)) = -1) (fun j0 => (gF G 1 0 2)) (gA G 35 0) (gF G 1 0 3))) 3 (p) 8 (1)) 3 (p) 10 (-1)) 3 (p) 9 ((gF G 1 0 2))) 3 (p) 11 (-1)) 3 (p) 10 (t)) 3 (p) 11 ((gF G 1 0 2) + r)) 234 (0) (Dm)) (uA (sF (sF (sF (sF (sF (sF (uA (uA (uA G 44 (0) (Dr)) 45 (0) (fr)) 35 (0) (filF (fun j0 => (gA G 32 0 (j0)) = p ∧ (gA G 35 0 (j0)) = -1) (fun j0 => (gF G 1 0 2)) (gA G 35 0) (gF G 1 0 3))) 3 (p) 8 (1)) 3 (p) 10 (-1)) 3 (p) 9 ((gF G 1 0 2))) 3 (p) 11 (-1)) 3 (p) 10 (t)) 3 (p) 11 ((gF G 1 0 2) + r)) 234 (0) (Dm))
      have hfp := far_pair iL (t := t) (by omega) (by omega) (by omega) (by omega) c4 c5 m4
      exfalso; omega
    · intro m1 m2 m3 Dm m4 m5 m6
      replace m1 : (0 ≤ p ∧ p < (gF G 12 (0) 17)) := m1
      replace m2 : ((0 ≤ t ∧ t < (gF G 12 (0) 3)) ∨ t = 16 ∨ t = 17) := m2
      replace m3 : ((gA G 206 (0) (p)) = 0 ∧ (gA G 207 (0) (p)) ≠ t ∧ (16 ≤ t ∨ ((gA G 200 (0) (t)) = (gA G 205 (0) (p)) ∧ cnt (fun i => (gA G 206 (0) (i)) ≤ 1 ∧ (gA G 207 (0) (i)) = t) (gF G 12 (0) 17) < (gA G 201 (0) (t))))) := m3
      replace m4 : IsD (fun u v => (gA G 202 (0) (18 * u + v))) (fun u => u = (gA G 207 (0) (p)) ∨ 16 ≤ u ∨ (gA G 200 (0) (u)) = (gA G 200 (0) ((gA G 207 (0) (p))))) (gA G 207 (0) (p)) 100000 Dm := m4
      replace m5 : Dm t < 100000 := m5
      replace m6 : (16 ≤ t ∨ (gF G 12 (0) 22) + cnt (fun i => (gA G 206 (0) (i)) = 1 ∧ (gA G 207 (0) (i)) < 16) (gF G 12 (0) 17) ≠ 400) := m6
      show (some (vI ((gF G 12 (0) 0) + Dm t)) = some (vI ((gF G 1 0 2) + r)) ∧ ∃ vz, some (vI ((gF G 1 0 2) + r)) = some (vI vz)) ∧ Inv w.1.2 (sA (sA (sA (sA (sA (uA (uA (sF (sF (sF (sF (sF (sF (uA (uA (uA G 44 (0) (Dr)) 45 (0) (fr)) 35 (0) (filF (fun j0 => (gA G 32 0 (j0)) = p ∧ (gA G 35 0 (j0)) = -1) (fun j0 => (gF G 1 0 2)) (gA G 35 0) (gF G 1 0 3))) 3 (p) 8 (1)) 3 (p) 10 (-1)) 3 (p) 9 ((gF G 1 0 2))) 3 (p) 11 (-1)) 3 (p) 10 (t)) 3 (p) 11 ((gF G 1 0 2) + r)) 234 (0) (Dm)) 218 (0) (filF (fun j0 => (gA G 215 (0) (j0)) = p ∧ (gA G 218 (0) (j0)) < 0) (fun j0 => (gF G 12 (0) 0)) (gA G 218 0) (gF G 12 (0) 22))) 206 (0) (p) (1)) 213 (0) (p) ((gF G 12 (0) 0))) 214 (0) (p) (-1)) 207 (0) (p) (t)) 214 (0) (p) ((gF G 12 (0) 0) + Dm t)) (sA (sA (sA (sA (sA (uA (uA (sF (sF (sF (sF (sF (sF (uA (uA (uA G 44 (0) (Dr)) 45 (0) (fr)) 35 (0) (filF (fun j0 => (gA G 32 0 (j0)) = p ∧ (gA G 35 0 (j0)) = -1) (fun j0 => (gF G 1 0 2)) (gA G 35 0) (gF G 1 0 3))) 3 (p) 8 (1)) 3 (p) 10 (-1)) 3 (p) 9 ((gF G 1 0 2))) 3 (p) 11 (-1)) 3 (p) 10 (t)) 3 (p) 11 ((gF G 1 0 2) + r)) 234 (0) (Dm)) 218 (0) (filF (fun j0 => (gA G 215 (0) (j0)) = p ∧ (gA G 218 (0) (j0)) < 0) (fun j0 => (gF G 12 (0) 0)) (gA G 218 0) (gF G 12 (0) 22))) 206 (0) (p) (1)) 213 (0) (p) ((gF G 12 (0) 0))) 214 (0) (p) (-1)) 207 (0) (p) (t)) 214 (0) (p) ((gF G 12 (0) 0) + Dm t))
      have hfp := far_pair iL (t := t) (by omega) (by omega) (by omega) (by omega) c4 c5 m4
      refine ⟨⟨by rw [show (gF G 12 0 0) + Dm t = (gF G 1 0 2) + r by omega], _, rfl⟩, iL, ?_, ?_, iF, iO, iE, iT, iR, iB, iX, iH, iG, iQ, iN, iA, ?_⟩
      · skip
        refine IPers_one (p := p) iP rfl rfl rfl rfl rfl rfl rfl (fun _ _ h => h) (fun i e k => by simp only [gF_sF, gF_sA, gF_uA, gF_sD, gA_sF, gA_sA, gA_uA, gA_sD, gD_sF, gD_sA, gD_uA, gD_sD, Nat.reduceEqDiff, reduceCtorEq, false_and, and_false, true_and, and_true, ite_true, ite_false, if_true, if_false, ↓reduceIte, and_self, e]) (fun i => rfl) (fun i _ => rfl) (fun i e c hc1 hc2 => by obtain ⟨n1, n2, n3, n4, n5⟩ := nk214 hc1 hc2; simp only [gF_sF, gF_sA, gF_uA, gF_sD, gA_sF, gA_sA, gA_uA, gA_sD, gD_sF, gD_sA, gD_uA, gD_sD, Nat.reduceEqDiff, reduceCtorEq, false_and, and_false, true_and, and_true, ite_true, ite_false, if_true, if_false, ↓reduceIte, and_self, e, n1, n2, n3, n4, n5]) ?_
        have b := (iP.2.2.2 p (by omega) (by omega))
        refine ⟨b.1, b.2.1, b.2.2.1, b.2.2.2.1, b.2.2.2.2.1, b.2.2.2.2.2.1, b.2.2.2.2.2.2.1, b.2.2.2.2.2.2.2.1, ?_, ?_, ?_, ?_, ?_, ?_⟩
        · (try simp only [gF_sF, gF_sA, gF_uA, gF_sD, gA_sF, gA_sA, gA_uA, gA_sD, gD_sF, gD_sA, gD_uA, gD_sD, Nat.reduceEqDiff, reduceCtorEq, false_and, and_false, true_and, and_true, ite_true, ite_false, if_true, if_false, ↓reduceIte, and_self]) <;> (try intros) <;> (try simp only [true_and]) <;> (try omega)
        · (try simp only [gF_sF, gF_sA, gF_uA, gF_sD, gA_sF, gA_sA, gA_uA, gA_sD, gD_sF, gD_sA, gD_uA, gD_sD, Nat.reduceEqDiff, reduceCtorEq, false_and, and_false, true_and, and_true, ite_true, ite_false, if_true, if_false, ↓reduceIte, and_self]) <;> (try intros) <;> (try simp only [true_and]) <;> (try omega)
        · (try simp only [gF_sF, gF_sA, gF_uA, gF_sD, gA_sF, gA_sA, gA_uA, gA_sD, gD_sF, gD_sA, gD_uA, gD_sD, Nat.reduceEqDiff, reduceCtorEq, false_and, and_false, true_and, and_true, ite_true, ite_false, if_true, if_false, ↓reduceIte, and_self]) <;> (try intros) <;> (try simp only [true_and]) <;> (try omega)
        · unfold ptOk
          (try simp only [gF_sF, gF_sA, gF_uA, gF_sD, gA_sF, gA_sA, gA_uA, gA_sD, gD_sF, gD_sA, gD_uA, gD_sD, Nat.reduceEqDiff, reduceCtorEq, false_and, and_false, true_and, and_true, ite_true, ite_false, if_true, if_false, ↓reduceIte, and_self]) <;> (try intros) <;> (try simp only [true_and]) <;> (try omega)
        · (try simp only [gF_sF, gF_sA, gF_uA, gF_sD, gA_sF, gA_sA, gA_uA, gA_sD, gD_sF, gD_sA, gD_uA, gD_sD, Nat.reduceEqDiff, reduceCtorEq, false_and, and_false, true_and, and_true, ite_true, ite_false, if_true, if_false, ↓reduceIte, and_self]) <;> (try intros) <;> (try simp only [true_and]) <;> (try omega)
        · (try simp only [gF_sF, gF_sA, gF_uA, gF_sD, gA_sF, gA_sA, gA_uA, gA_sD, gD_sF, gD_sA, gD_uA, gD_sD, Nat.reduceEqDiff, reduceCtorEq, false_and, and_false, true_and, and_true, ite_true, ite_false, if_true, if_false, ↓reduceIte, and_self]) <;> (try intros) <;> (try simp only [true_and]) <;> (try omega)
      · refine IStay_leave (p := p) iS hday.1 ed rfl rfl rfl rfl rfl rfl rfl rfl rfl rfl rfl (Or.inl ⟨by omega, rfl⟩) (fun i e => by simp only [gF_sF, gF_sA, gF_uA, gF_sD, gA_sF, gA_sA, gA_uA, gA_sD, gD_sF, gD_sA, gD_uA, gD_sD, Nat.reduceEqDiff, reduceCtorEq, false_and, and_false, true_and, and_true, ite_true, ite_false, if_true, if_false, ↓reduceIte, and_self, e]) ?_
        by_cases ht : t < 16
        · have hm := cnt_one (p := p) (q := owP (sA (sA (sA (sA (sA (uA (uA (sF (sF (sF (sF (sF (sF (uA (uA (uA G 44 0 (Dr)) 45 0 (fr)) 35 0 (filF (fun j0 => (gA G 32 0 (j0)) = p ∧ (gA G 35 0 (j0)) = -1) (fun j0 => (gF G 1 0 2)) (gA G 35 0) (gF G 1 0 3))) 3 (p) 8 (1)) 3 (p) 10 (-1)) 3 (p) 9 ((gF G 1 0 2))) 3 (p) 11 (-1)) 3 (p) 10 (t)) 3 (p) 11 ((gF G 1 0 2) + r)) 234 0 (Dm)) 218 0 (filF (fun j0 => (gA G 215 0 (j0)) = p ∧ (gA G 218 0 (j0)) < 0) (fun j0 => (gF G 12 0 0)) (gA G 218 0) (gF G 12 0 22))) 206 0 (p) (1)) 213 0 (p) ((gF G 12 0 0))) 214 0 (p) (-1)) 207 0 (p) (t)) 214 0 (p) ((gF G 12 0 0) + Dm t))) (r := owP G) (n := (gF G 1 0 1)) hsz.1 (fun i _ _ e h => ?_)
          · rw [if_pos (by omega)] at hm; omega
          · unfold owP at h ⊢
            revert h
            simp only [gF_sF, gF_sA, gF_uA, gF_sD, gA_sF, gA_sA, gA_uA, gA_sD, gD_sF, gD_sA, gD_uA, gD_sD, Nat.reduceEqDiff, reduceCtorEq, false_and, and_false, true_and, and_true, ite_true, ite_false, if_true, if_false, ↓reduceIte, and_self, e]
            exact id
        · have hm := cnt_mono (p := owP (sA (sA (sA (sA (sA (uA (uA (sF (sF (sF (sF (sF (sF (uA (uA (uA G 44 0 (Dr)) 45 0 (fr)) 35 0 (filF (fun j0 => (gA G 32 0 (j0)) = p ∧ (gA G 35 0 (j0)) = -1) (fun j0 => (gF G 1 0 2)) (gA G 35 0) (gF G 1 0 3))) 3 (p) 8 (1)) 3 (p) 10 (-1)) 3 (p) 9 ((gF G 1 0 2))) 3 (p) 11 (-1)) 3 (p) 10 (t)) 3 (p) 11 ((gF G 1 0 2) + r)) 234 0 (Dm)) 218 0 (filF (fun j0 => (gA G 215 0 (j0)) = p ∧ (gA G 218 0 (j0)) < 0) (fun j0 => (gF G 12 0 0)) (gA G 218 0) (gF G 12 0 22))) 206 0 (p) (1)) 213 0 (p) ((gF G 12 0 0))) 214 0 (p) (-1)) 207 0 (p) (t)) 214 0 (p) ((gF G 12 0 0) + Dm t))) (q := owP G) (n := (gF G 1 0 1)) hsz.1 (fun i _ _ h => ?_)
          · omega
          · unfold owP at h ⊢
            by_cases e : i = p
            · rw [e] at h
              revert h
              simp only [gF_sF, gF_sA, gF_uA, gF_sD, gA_sF, gA_sA, gA_uA, gA_sD, gD_sF, gD_sA, gD_uA, gD_sD, Nat.reduceEqDiff, reduceCtorEq, false_and, and_false, true_and, and_true, ite_true, ite_false, if_true, if_false, ↓reduceIte, and_self]
              intro h; omega
            · revert h
              simp only [gF_sF, gF_sA, gF_uA, gF_sD, gA_sF, gA_sA, gA_uA, gA_sD, gD_sF, gD_sA, gD_uA, gD_sD, Nat.reduceEqDiff, reduceCtorEq, false_and, and_false, true_and, and_true, ite_true, ite_false, if_true, if_false, ↓reduceIte, and_self, e]
              exact id
      · refine ISide_one (p := p) iJ rfl rfl (fun i e => ⟨by simp only [gF_sF, gF_sA, gF_uA, gF_sD, gA_sF, gA_sA, gA_uA, gA_sD, gD_sF, gD_sA, gD_uA, gD_sD, Nat.reduceEqDiff, reduceCtorEq, false_and, and_false, true_and, and_true, ite_true, ite_false, if_true, if_false, ↓reduceIte, and_self, e], by simp only [gF_sF, gF_sA, gF_uA, gF_sD, gA_sF, gA_sA, gA_uA, gA_sD, gD_sF, gD_sA, gD_uA, gD_sD, Nat.reduceEqDiff, reduceCtorEq, false_and, and_false, true_and, and_true, ite_true, ite_false, if_true, if_false, ↓reduceIte, and_self, e], by simp only [gF_sF, gF_sA, gF_uA, gF_sD, gA_sF, gA_sA, gA_uA, gA_sD, gD_sF, gD_sA, gD_uA, gD_sD, Nat.reduceEqDiff, reduceCtorEq, false_and, and_false, true_and, and_true, ite_true, ite_false, if_true, if_false, ↓reduceIte, and_self]⟩) ?_
        unfold sideOk
        simp only [gF_sF, gF_sA, gF_uA, gF_sD, gA_sF, gA_sA, gA_uA, gA_sD, gD_sF, gD_sA, gD_uA, gD_sD, Nat.reduceEqDiff, reduceCtorEq, false_and, and_false, true_and, and_true, ite_true, ite_false, if_true, if_false, ↓reduceIte, and_self]
        first | (exact ⟨fun z => by omega, fun _ z => by omega⟩) | omega | (intros; omega)
set_option maxRecDepth 10000 in
theorem call_of {l : Launch} {w : Wo} {d : Nat} {G : PH} (hI : Inv w.1.2 G G) {p : Int} {k : Int} : CallOk l w d M_X11_of M_X12_of [some (vR 11 (0)), some (vI (p)), some (vI (k))] [some (vR 12 (0)), some (vI (p)), some (vI (k))] G := by
  obtain ⟨iL, iP, iS, iF, iO, iE, iT, iR, iB, iX, iH, iG, iQ, iN, iA, iJ⟩ := hI
  have hsz : 0 ≤ (gF G 1 0 1) ∧ (gF G 1 0 1) ≤ 150 := by have := iP.1; omega
  have ep : (gF G 12 0 17) = (gF G 1 0 1) := iP.1.2.2
  have mhsz : 0 ≤ (gF G 12 0 17) ∧ (gF G 12 0 17) ≤ 150 := by omega
  have hp : ∀ i, 0 ≤ i → i < (gF G 1 0 1) → gD G 30 0 i = some (3, i) := fun i a b => (iP.2.2.2 i a b).1.1
  have hcw := cnt_le (owP G) hsz.1
  have es : (gF G 12 0 22) = (gF G 1 0 3) := iS.1.1
  have hst : 0 ≤ (gF G 1 0 3) ∧ (gF G 1 0 3) ≤ 400 := by have := iS.1; omega
  have mhst : 0 ≤ (gF G 12 0 22) ∧ (gF G 12 0 22) ≤ 400 := by omega
  have hday : 0 ≤ (gF G 1 0 2) ∧ (gF G 1 0 2) ≤ 600 := iP.2.1.2
  have ed : (gF G 12 0 0) = (gF G 1 0 2) := iP.2.1.1
  have hpf := pf iP p
  have hcs : cnt (fun i => (gA G 215 0 (i)) = p) (gF G 12 0 22) = cnt (fun i => (gA G 32 0 (i)) = p) (gF G 1 0 3) := by rw [es]; exact cnt_congr fun i a b => by have := (iS.2 i a b).1.1; omega
  unfold CallOk CallPhi
  refine sp_X11_of (d := d + 998) (by first | assumption | exact hp | omega) (by first | assumption | exact hsz | omega) (by first | assumption | exact hst | omega) ?_ ?_
  · intro c1
    refine sp_X12_of (d := d + 999) (by first | assumption | exact mhsz | omega) (by first | assumption | exact mhst | omega) ?_ ?_
    · intro m1
      replace m1 : ¬ (0 ≤ p ∧ p < (gF G 12 (0) 17)) := m1
      exact ⟨⟨rfl, _, rfl⟩, iL, iP, iS, iF, iO, iE, iT, iR, iB, iX, iH, iG, iQ, iN, iA, iJ⟩
    · intro m1 v2 m2
      replace m1 : (0 ≤ p ∧ p < (gF G 12 (0) 17)) := m1
      replace m2 : ((k = 0 ∧ v2 = (gA G 204 (0) (p))) ∨ (k = 1 ∧ v2 = (gA G 205 (0) (p))) ∨ (k = 2 ∧ v2 = (gA G 206 (0) (p))) ∨ (k = 4 ∧ v2 = (gA G 208 (0) (p))) ∨ (k = 5 ∧ v2 = (gA G 209 (0) (p))) ∨ (k = 6 ∧ v2 = (gA G 210 (0) (p))) ∨ (k = 7 ∧ v2 = (gA G 212 (0) (p))) ∨ (k = 8 ∧ v2 = (gA G 213 (0) (p))) ∨ (k = 9 ∧ v2 = cnt (fun i => (gA G 215 (0) (i)) = p) (gF G 12 (0) 22)) ∨ (k = 3 ∧ (((gA G 206 (0) (p)) ≤ 1 ∧ v2 = (gA G 207 (0) (p))) ∨ (1 < (gA G 206 (0) (p)) ∧ v2 = -1))) ∨ (k = 10 ∧ (((gA G 206 (0) (p)) = 1 ∧ v2 = (gA G 214 (0) (p))) ∨ ((gA G 206 (0) (p)) ≠ 1 ∧ v2 = -1))) ∨ (¬ (0 ≤ k ∧ k ≤ 10) ∧ v2 = -2000000000)) := m2
      exfalso; omega
  · intro c1 v c2
    refine sp_X12_of (d := d + 999) (by first | assumption | exact mhsz | omega) (by first | assumption | exact mhst | omega) ?_ ?_
    · intro m1
      replace m1 : ¬ (0 ≤ p ∧ p < (gF G 12 (0) 17)) := m1
      exfalso; omega
    · intro m1 v2 m2
      replace m1 : (0 ≤ p ∧ p < (gF G 12 (0) 17)) := m1
      replace m2 : ((k = 0 ∧ v2 = (gA G 204 (0) (p))) ∨ (k = 1 ∧ v2 = (gA G 205 (0) (p))) ∨ (k = 2 ∧ v2 = (gA G 206 (0) (p))) ∨ (k = 4 ∧ v2 = (gA G 208 (0) (p))) ∨ (k = 5 ∧ v2 = (gA G 209 (0) (p))) ∨ (k = 6 ∧ v2 = (gA G 210 (0) (p))) ∨ (k = 7 ∧ v2 = (gA G 212 (0) (p))) ∨ (k = 8 ∧ v2 = (gA G 213 (0) (p))) ∨ (k = 9 ∧ v2 = cnt (fun i => (gA G 215 (0) (i)) = p) (gF G 12 (0) 22)) ∨ (k = 3 ∧ (((gA G 206 (0) (p)) ≤ 1 ∧ v2 = (gA G 207 (0) (p))) ∨ (1 < (gA G 206 (0) (p)) ∧ v2 = -1))) ∨ (k = 10 ∧ (((gA G 206 (0) (p)) = 1 ∧ v2 = (gA G 214 (0) (p))) ∨ ((gA G 206 (0) (p)) ≠ 1 ∧ v2 = -1))) ∨ (¬ (0 ≤ k ∧ k ≤ 10) ∧ v2 = -2000000000)) := m2
      show (some (vI v2) = some (vI v) ∧ ∃ vz, some (vI v) = some (vI vz)) ∧ Inv w.1.2 G G
      have ev : v2 = v := by
        rcases c2 with c2 | c2 | c2 | c2 | c2 | c2 | c2 | c2 | c2 | c2 | c2 | c2 <;> first | (rcases m2 with m2 | m2 | m2 | m2 | m2 | m2 | m2 | m2 | m2 | m2 | m2 | m2 <;> omega)
      refine ⟨⟨by rw [ev], _, rfl⟩, iL, iP, iS, iF, iO, iE, iT, iR, iB, iX, iH, iG, iQ, iN, iA, iJ⟩
set_option maxRecDepth 10000 in
theorem call_stay {l : Launch} {w : Wo} {d : Nat} {G : PH} (hI : Inv w.1.2 G G) {p : Int} {j : Int} {k : Int} : CallOk l w d M_X11_stay M_X12_stay [some (vR 11 (0)), some (vI (p)), some (vI (j)), some (vI (k))] [some (vR 12 (0)), some (vI (p)), some (vI (j)), some (vI (k)), none, none] G := by
  obtain ⟨iL, iP, iS, iF, iO, iE, iT, iR, iB, iX, iH, iG, iQ, iN, iA, iJ⟩ := hI
  have hsz : 0 ≤ (gF G 1 0 1) ∧ (gF G 1 0 1) ≤ 150 := by have := iP.1; omega
  have ep : (gF G 12 0 17) = (gF G 1 0 1) := iP.1.2.2
  have mhsz : 0 ≤ (gF G 12 0 17) ∧ (gF G 12 0 17) ≤ 150 := by omega
  have hp : ∀ i, 0 ≤ i → i < (gF G 1 0 1) → gD G 30 0 i = some (3, i) := fun i a b => (iP.2.2.2 i a b).1.1
  have hcw := cnt_le (owP G) hsz.1
  have es : (gF G 12 0 22) = (gF G 1 0 3) := iS.1.1
  have hst : 0 ≤ (gF G 1 0 3) ∧ (gF G 1 0 3) ≤ 400 := by have := iS.1; omega
  have mhst : 0 ≤ (gF G 12 0 22) ∧ (gF G 12 0 22) ≤ 400 := by omega
  have hday : 0 ≤ (gF G 1 0 2) ∧ (gF G 1 0 2) ≤ 600 := iP.2.1.2
  have ed : (gF G 12 0 0) = (gF G 1 0 2) := iP.2.1.1
  have hcs : cnt (fun i => (gA G 215 0 (i)) = p) (gF G 12 0 22) = cnt (fun i => (gA G 32 0 (i)) = p) (gF G 1 0 3) := by rw [es]; exact cnt_congr fun i a b => by have := (iS.2 i a b).1.1; omega
  have hcs2 : ∀ s, 0 ≤ s → s ≤ (gF G 1 0 3) → cnt (fun i => (gA G 215 0 (i)) = p) s = cnt (fun i => (gA G 32 0 (i)) = p) s := fun s x y => cnt_congr fun i a b => by have := (iS.2 i a (by omega)).1.1; omega
  unfold CallOk CallPhi
  refine sp_X11_stay (d := d + 999) (by first | assumption | exact hst | omega) ?_ ?_
  · intro c1
    refine sp_X12_stay (d := d + 999) (by first | assumption | exact mhst | omega) ?_ ?_ ?_
    · intro m1
      replace m1 : ¬ (0 ≤ p ∧ p < (gF G 12 (0) 17)) := m1
      exact ⟨⟨rfl, _, rfl⟩, iL, iP, iS, iF, iO, iE, iT, iR, iB, iX, iH, iG, iQ, iN, iA, iJ⟩
    · intro m1 m2
      replace m1 : (0 ≤ p ∧ p < (gF G 12 (0) 17)) := m1
      replace m2 : (j < 0 ∨ cnt (fun i => (gA G 215 (0) (i)) = p) (gF G 12 (0) 22) ≤ j ∨ ¬ (0 ≤ k ∧ k ≤ 2)) := m2
      exact ⟨⟨rfl, _, rfl⟩, iL, iP, iS, iF, iO, iE, iT, iR, iB, iX, iH, iG, iQ, iN, iA, iJ⟩
    · intro m1 s2 m2 m3 m4 m5 v2 m6
      replace m1 : (0 ≤ p ∧ p < (gF G 12 (0) 17)) := m1
      replace m2 : 0 ≤ s2 := m2
      replace m3 : s2 < (gF G 12 (0) 22) := m3
      replace m4 : (gA G 215 (0) (s2)) = p := m4
      replace m5 : cnt (fun i => (gA G 215 (0) (i)) = p) s2 = j := m5
      replace m6 : ((k = 0 ∧ v2 = (gA G 216 (0) (s2))) ∨ (k = 1 ∧ v2 = (gA G 217 (0) (s2))) ∨ (k = 2 ∧ v2 = (gA G 218 (0) (s2)))) := m6
      show (some (vI v2) = some (vI (-2000000000)) ∧ ∃ vz, some (vI (-2000000000)) = some (vI vz)) ∧ Inv w.1.2 G G
      have h1 := cnt_up (p := fun i => (gA G 215 0 (i)) = p) (m := s2 + 1) (n := (gF G 12 0 22)) (by omega) (by omega)
      rw [cnt_t (p := fun i => (gA G 215 0 (i)) = p) (by omega) m4] at h1
      have h2 := cnt_le (fun i => (gA G 215 0 (i)) = p) (n := s2) (by omega)
      exfalso; omega
  · intro s c1 c2 c3 c4 v c5
    refine sp_X12_stay (d := d + 999) (by first | assumption | exact mhst | omega) ?_ ?_ ?_
    · intro m1
      replace m1 : ¬ (0 ≤ p ∧ p < (gF G 12 (0) 17)) := m1
      show (some (vI (-2000000000)) = some (vI v) ∧ ∃ vz, some (vI v) = some (vI vz)) ∧ Inv w.1.2 G G
      have h1 := (iS.2 s c1 c2).1
      exfalso; omega
    · intro m1 m2
      replace m1 : (0 ≤ p ∧ p < (gF G 12 (0) 17)) := m1
      replace m2 : (j < 0 ∨ cnt (fun i => (gA G 215 (0) (i)) = p) (gF G 12 (0) 22) ≤ j ∨ ¬ (0 ≤ k ∧ k ≤ 2)) := m2
      show (some (vI (-2000000000)) = some (vI v) ∧ ∃ vz, some (vI v) = some (vI vz)) ∧ Inv w.1.2 G G
      have h1 := cnt_up (p := fun i => (gA G 32 0 (i)) = p) (m := s + 1) (n := (gF G 1 0 3)) (by omega) (by omega)
      rw [cnt_t (p := fun i => (gA G 32 0 (i)) = p) (by omega) c3] at h1
      have h2 := cnt_le (fun i => (gA G 32 0 (i)) = p) (n := s) (by omega)
      exfalso; omega
    · intro m1 s2 m2 m3 m4 m5 v2 m6
      replace m1 : (0 ≤ p ∧ p < (gF G 12 (0) 17)) := m1
      replace m2 : 0 ≤ s2 := m2
      replace m3 : s2 < (gF G 12 (0) 22) := m3
      replace m4 : (gA G 215 (0) (s2)) = p := m4
      replace m5 : cnt (fun i => (gA G 215 (0) (i)) = p) s2 = j := m5
      replace m6 : ((k = 0 ∧ v2 = (gA G 216 (0) (s2))) ∨ (k = 1 ∧ v2 = (gA G 217 (0) (s2))) ∨ (k = 2 ∧ v2 = (gA G 218 (0) (s2)))) := m6
      show (some (vI v2) = some (vI v) ∧ ∃ vz, some (vI v) = some (vI vz)) ∧ Inv w.1.2 G G
      have e1 := iS.2 s c1 c2
      have es2 : s2 = s := cnt_inj (p := fun i => (gA G 32 0 (i)) = p) m2 c1 (by have := (iS.2 s2 m2 (by omega)).1.1; show (gA G 32 0 (s2)) = p; omega) c3 (by rw [← hcs2 s2 (by omega) (by omega)]; omega)
      subst es2
      obtain ⟨-, e2, ⟨e3, -⟩, e4, -⟩ := e1
      have ev : v2 = v := by omega
      refine ⟨⟨by rw [ev], _, rfl⟩, iL, iP, iS, iF, iO, iE, iT, iR, iB, iX, iH, iG, iQ, iN, iA, iJ⟩
set_option maxRecDepth 10000 in
theorem call_taken {l : Launch} {w : Wo} {d : Nat} {G : PH} (hI : Inv w.1.2 G G) {p : Int} {k : Int} : CallOk l w d M_X11_taken M_X12_taken [some (vR 11 (0)), some (vI (p)), some (vI (k))] [some (vR 12 (0)), some (vI (p)), some (vI (k)), none] G := by
  obtain ⟨iL, iP, iS, iF, iO, iE, iT, iR, iB, iX, iH, iG, iQ, iN, iA, iJ⟩ := hI
  have hsz : 0 ≤ (gF G 1 0 1) ∧ (gF G 1 0 1) ≤ 150 := by have := iP.1; omega
  have ep : (gF G 12 0 17) = (gF G 1 0 1) := iP.1.2.2
  have mhsz : 0 ≤ (gF G 12 0 17) ∧ (gF G 12 0 17) ≤ 150 := by omega
  have hp : ∀ i, 0 ≤ i → i < (gF G 1 0 1) → gD G 30 0 i = some (3, i) := fun i a b => (iP.2.2.2 i a b).1.1
  have hcw := cnt_le (owP G) hsz.1
  have es : (gF G 12 0 22) = (gF G 1 0 3) := iS.1.1
  have hst : 0 ≤ (gF G 1 0 3) ∧ (gF G 1 0 3) ≤ 400 := by have := iS.1; omega
  have mhst : 0 ≤ (gF G 12 0 22) ∧ (gF G 12 0 22) ≤ 400 := by omega
  have hday : 0 ≤ (gF G 1 0 2) ∧ (gF G 1 0 2) ≤ 600 := iP.2.1.2
  have ed : (gF G 12 0 0) = (gF G 1 0 2) := iP.2.1.1
  have hpf := pf iP p
  have hk : (0 ≤ p ∧ p < (gF G 1 0 1)) → 1 ≤ (gF G 3 (p) 1) ∧ (gF G 3 (p) 1) ≤ 7 := fun _ => by omega
  have mhk : (0 ≤ p ∧ p < (gF G 12 0 17)) → 1 ≤ (gA G 204 0 (p)) ∧ (gA G 204 0 (p)) ≤ 7 := fun _ => by omega
  unfold CallOk CallPhi
  refine sp_X11_taken (d := d + 998) (by first | assumption | exact hp | omega) (by first | assumption | exact hsz | omega) (by first | assumption | exact hk | omega) ?_ ?_ ?_
  · intro c1
    refine sp_X12_taken (d := d + 999) (by first | assumption | exact mhsz | omega) (by first | assumption | exact mhk | omega) ?_ ?_ ?_
    · intro m1
      replace m1 : ¬ ((0 ≤ p ∧ p < (gF G 12 (0) 17)) ∧ 0 ≤ k ∧ k ≤ 7) := m1
      exact ⟨⟨rfl, _, rfl⟩, iL, iP, iS, iF, iO, iE, iT, iR, iB, iX, iH, iG, iQ, iN, iA, iJ⟩
    · intro m1 m2 m3
      replace m1 : (0 ≤ p ∧ p < (gF G 12 (0) 17)) := m1
      replace m2 : (0 ≤ k ∧ k ≤ 7) := m2
      replace m3 : ¬ (Und (gA G 204 (0) (p)) k) := m3
      exfalso; omega
    · intro m1 m2 m3
      replace m1 : (0 ≤ p ∧ p < (gF G 12 (0) 17)) := m1
      replace m2 : (0 ≤ k ∧ k ≤ 7) := m2
      replace m3 : (Und (gA G 204 (0) (p)) k) := m3
      exfalso; omega
  · intro c1 c2 c3
    refine sp_X12_taken (d := d + 999) (by first | assumption | exact mhsz | omega) (by first | assumption | exact mhk | omega) ?_ ?_ ?_
    · intro m1
      replace m1 : ¬ ((0 ≤ p ∧ p < (gF G 12 (0) 17)) ∧ 0 ≤ k ∧ k ≤ 7) := m1
      exfalso; omega
    · intro m1 m2 m3
      replace m1 : (0 ≤ p ∧ p < (gF G 12 (0) 17)) := m1
      replace m2 : (0 ≤ k ∧ k ≤ 7) := m2
      replace m3 : ¬ (Und (gA G 204 (0) (p)) k) := m3
      exact ⟨⟨rfl, _, rfl⟩, iL, iP, iS, iF, iO, iE, iT, iR, iB, iX, iH, iG, iQ, iN, iA, iJ⟩
    · intro m1 m2 m3
      replace m1 : (0 ≤ p ∧ p < (gF G 12 (0) 17)) := m1
      replace m2 : (0 ≤ k ∧ k ≤ 7) := m2
      replace m3 : (Und (gA G 204 (0) (p)) k) := m3
      show (some (vI (gA G 204 (0) (p))) = some (vI (-5)) ∧ ∃ vz, some (vI (-5)) = some (vI vz)) ∧ Inv w.1.2 G G
      rw [show (gA G 204 0 (p)) = (gF G 3 (p) 1) by omega] at m3
      exact absurd m3 c3
  · intro c1 c2 c3
    refine sp_X12_taken (d := d + 999) (by first | assumption | exact mhsz | omega) (by first | assumption | exact mhk | omega) ?_ ?_ ?_
    · intro m1
      replace m1 : ¬ ((0 ≤ p ∧ p < (gF G 12 (0) 17)) ∧ 0 ≤ k ∧ k ≤ 7) := m1
      exfalso; omega
    · intro m1 m2 m3
      replace m1 : (0 ≤ p ∧ p < (gF G 12 (0) 17)) := m1
      replace m2 : (0 ≤ k ∧ k ≤ 7) := m2
      replace m3 : ¬ (Und (gA G 204 (0) (p)) k) := m3
      show (some (vI (-5)) = some (vI (gF G 3 (p) 1)) ∧ ∃ vz, some (vI (gF G 3 (p) 1)) = some (vI vz)) ∧ Inv w.1.2 G G
      rw [show (gA G 204 0 (p)) = (gF G 3 (p) 1) by omega] at m3
      exact absurd c3 m3
    · intro m1 m2 m3
      replace m1 : (0 ≤ p ∧ p < (gF G 12 (0) 17)) := m1
      replace m2 : (0 ≤ k ∧ k ≤ 7) := m2
      replace m3 : (Und (gA G 204 (0) (p)) k) := m3
      show (some (vI (gA G 204 (0) (p))) = some (vI (gF G 3 (p) 1)) ∧ ∃ vz, some (vI (gF G 3 (p) 1)) = some (vI vz)) ∧ Inv w.1.2 G G
      refine ⟨⟨by rw [show (gA G 204 0 (p)) = (gF G 3 (p) 1) by omega], _, rfl⟩, iL, iP, iS, iF, iO, iE, iT, iR, iB, iX, iH, iG, iQ, iN, iA, iJ⟩
set_option maxRecDepth 10000 in
theorem call_count {l : Launch} {w : Wo} {d : Nat} {G : PH} (hI : Inv w.1.2 G G) {k : Int} : CallOk l w d M_X11_count M_X12_count [some (vR 11 (0)), some (vI (k))] [some (vR 12 (0)), some (vI (k)), none, none] G := by
  obtain ⟨iL, iP, iS, iF, iO, iE, iT, iR, iB, iX, iH, iG, iQ, iN, iA, iJ⟩ := hI
  have hc : 0 ≤ (gF G 2 0 2) ∧ (gF G 2 0 2) ≤ 16 := ⟨iL.1.1, iL.1.2.1⟩
  have ec : (gF G 12 0 3) = (gF G 2 0 2) := iL.1.2.2
  have mhc : 0 ≤ (gF G 12 0 3) ∧ (gF G 12 0 3) ≤ 16 := by omega
  have hsz : 0 ≤ (gF G 1 0 1) ∧ (gF G 1 0 1) ≤ 150 := by have := iP.1; omega
  have ep : (gF G 12 0 17) = (gF G 1 0 1) := iP.1.2.2
  have mhsz : 0 ≤ (gF G 12 0 17) ∧ (gF G 12 0 17) ≤ 150 := by omega
  have hp : ∀ i, 0 ≤ i → i < (gF G 1 0 1) → gD G 30 0 i = some (3, i) := fun i a b => (iP.2.2.2 i a b).1.1
  have hcw := cnt_le (owP G) hsz.1
  have es : (gF G 12 0 22) = (gF G 1 0 3) := iS.1.1
  have hst : 0 ≤ (gF G 1 0 3) ∧ (gF G 1 0 3) ≤ 400 := by have := iS.1; omega
  have mhst : 0 ≤ (gF G 12 0 22) ∧ (gF G 12 0 22) ≤ 400 := by omega
  have hday : 0 ≤ (gF G 1 0 2) ∧ (gF G 1 0 2) ≤ 600 := iP.2.1.2
  have ed : (gF G 12 0 0) = (gF G 1 0 2) := iP.2.1.1
  have f1 := iF.1.1
  have f2 := iF.2.1.1
  have f3 := iO.1.1
  have f4 := iT.1.1
  have f5 := iR.1.1
  have f6 := iE.1.1
  have f7 : cnt (fun i => (gA G 206 0 (i)) = k - 10) (gF G 12 0 17) = cnt (fun i => (gF G 3 (i) 8) = k - 10) (gF G 1 0 1) := by rw [ep]; exact cnt_congr fun i a b => by have := pf iP i; omega
  unfold CallOk CallPhi
  refine sp_X11_count (d := d + 999) (by first | assumption | exact hp | omega) (by first | assumption | exact hsz | omega) ?_
  · intro v c1
    refine sp_X12_count (d := d + 999) (by first | assumption | exact mhsz | omega) ?_
    · intro v2 m1
      replace m1 : ((k = 0 ∧ v2 = (gF G 12 (0) 3)) ∨ (k = 1 ∧ v2 = (gF G 12 (0) 17)) ∨ (k = 2 ∧ v2 = (gF G 12 (0) 0)) ∨ (k = 3 ∧ v2 = (gF G 12 (0) 27)) ∨ (k = 4 ∧ v2 = (gF G 12 (0) 29)) ∨ (k = 5 ∧ v2 = (gF G 12 (0) 34)) ∨ (k = 6 ∧ v2 = (gF G 12 (0) 42)) ∨ (k = 7 ∧ v2 = (gF G 12 (0) 55)) ∨ (k = 8 ∧ v2 = (gF G 12 (0) 22)) ∨ (k = 9 ∧ v2 = (gF G 12 (0) 36)) ∨ ((10 ≤ k ∧ k ≤ 18) ∧ v2 = cnt (fun i => (gA G 206 (0) (i)) = k - 10) (gF G 12 (0) 17)) ∨ (¬ (0 ≤ k ∧ k ≤ 18) ∧ v2 = -1)) := m1
      show (some (vI v2) = some (vI v) ∧ ∃ vz, some (vI v) = some (vI vz)) ∧ Inv w.1.2 G G
      have ev : v2 = v := by
        rcases c1 with c1 | c1 | c1 | c1 | c1 | c1 | c1 | c1 | c1 | c1 | c1 | c1 <;> first | (rcases m1 with m1 | m1 | m1 | m1 | m1 | m1 | m1 | m1 | m1 | m1 | m1 | m1 <;> omega)
      refine ⟨⟨by rw [ev], _, rfl⟩, iL, iP, iS, iF, iO, iE, iT, iR, iB, iX, iH, iG, iQ, iN, iA, iJ⟩

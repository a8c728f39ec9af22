theorem vac {i n : Int} {P : Prop} (hn : n = 0) (a : 0 ≤ i) (b : i < n) : P := by exfalso; omega
theorem gz0 {c : Nat} {r i : Int} (h1 : c ≠ 240) (h2 : c ≠ 270) (h3 : c ≠ 53) (h4 : c ≠ 58) (h5 : c ≠ 95) : gA gs c r i = 0 := by
  unfold gs gt gr
  rw [gA_uA, if_neg (fun z => h1 z.1), gA_uA, if_neg (fun z => h2 z.1), gA_sA, if_neg (fun z => h5 z.1), gA_sA, if_neg (fun z => h5 z.1), gA_uA, if_neg (fun z => h4 z.1), gA_uA, if_neg (fun z => h3 z.1)]
  rfl
theorem g240 {j : Int} : gA gs 240 0 j = cbF 27 j := by
  unfold gs
  rw [gA_uA, if_pos ⟨rfl, rfl⟩]
theorem g270 {j : Int} : gA gs 270 0 j = tsF 4 j := by
  unfold gs
  rw [gA_uA, if_neg (by decide), gA_uA, if_pos ⟨rfl, rfl⟩]
theorem g53 {j : Int} : gA gs 53 0 j = alF 27 j := by
  unfold gs gt gr
  rw [gA_uA, if_neg (by decide), gA_uA, if_neg (by decide), gA_sA, if_neg (fun z => absurd z.1 (by decide)), gA_sA, if_neg (fun z => absurd z.1 (by decide)), gA_uA, if_neg (by decide), gA_uA, if_pos ⟨rfl, rfl⟩]
theorem g58 {j : Int} : gA gs 58 0 j = tsF 4 j := by
  unfold gs gt gr
  rw [gA_uA, if_neg (by decide), gA_uA, if_neg (by decide), gA_sA, if_neg (fun z => absurd z.1 (by decide)), gA_sA, if_neg (fun z => absurd z.1 (by decide)), gA_uA, if_pos ⟨rfl, rfl⟩]
theorem g95 {j : Int} (h : 0 ≤ j ∧ j < 2) : gA gs 95 0 j = -1 := by
  unfold gs gt gr
  rw [gA_uA, if_neg (by decide), gA_uA, if_neg (by decide), gA_sA]
  by_cases e : j = 1
  · rw [if_pos ⟨rfl, rfl, e⟩]
  · rw [if_neg (fun z => e z.2.2), gA_sA, if_pos ⟨rfl, rfl, by omega⟩]
theorem zz {P : Int → Prop} {c : Nat} {r i : Int} (h1 : c ≠ 240 ∧ c ≠ 270 ∧ c ≠ 53 ∧ c ≠ 58 ∧ c ≠ 95) (h : P 0) : P (gA gs c r i) := by rw [gz0 h1.1 h1.2.1 h1.2.2.1 h1.2.2.2.1 h1.2.2.2.2]; exact h
theorem zle {c : Nat} {r i a b : Int} (h1 : c ≠ 240 ∧ c ≠ 270 ∧ c ≠ 53 ∧ c ≠ 58 ∧ c ≠ 95) (ha : a ≤ 0) (hb : 0 ≤ b) : a ≤ gA gs c r i ∧ gA gs c r i ≤ b := by rw [gz0 h1.1 h1.2.1 h1.2.2.1 h1.2.2.2.1 h1.2.2.2.2]; exact ⟨ha, hb⟩
theorem zeq {c c' : Nat} {r i r' i' : Int} (h1 : c ≠ 240 ∧ c ≠ 270 ∧ c ≠ 53 ∧ c ≠ 58 ∧ c ≠ 95) (h2 : c' ≠ 240 ∧ c' ≠ 270 ∧ c' ≠ 53 ∧ c' ≠ 58 ∧ c' ≠ 95) : gA gs c r i = gA gs c' r' i' := by rw [gz0 h1.1 h1.2.1 h1.2.2.1 h1.2.2.2.1 h1.2.2.2.2, gz0 h2.1 h2.2.1 h2.2.2.1 h2.2.2.2.1 h2.2.2.2.2]
theorem z0 {c : Nat} {r i : Int} (h1 : c ≠ 240 ∧ c ≠ 270 ∧ c ≠ 53 ∧ c ≠ 58 ∧ c ≠ 95) : gA gs c r i = 0 := gz0 h1.1 h1.2.1 h1.2.2.1 h1.2.2.2.1 h1.2.2.2.2
theorem inv_gs : Inv 0 gs gs := by
  refine ⟨⟨⟨by decide +kernel, by decide +kernel, by decide +kernel⟩, fun i a b => vac (by decide +kernel) a b, fun k _ _ => ⟨zeq (by decide) (by decide), zle (by decide) (by decide) (by decide)⟩, fun u v _ _ _ _ h => absurd h (by rw [z0 (by decide)]; decide)⟩,
    ⟨⟨by decide +kernel, by decide +kernel, by decide +kernel⟩, ⟨by decide +kernel, by decide +kernel, by decide +kernel⟩, fun g _ _ => ⟨zeq (by decide) (by decide), zle (by decide) (by decide) (by decide)⟩, fun i a b => vac (by decide +kernel) a b⟩,
    ⟨⟨by decide +kernel, by decide +kernel, ?_⟩, fun i a b => vac (by decide +kernel) a b⟩,
    ⟨⟨by decide +kernel, by decide +kernel, by decide +kernel⟩, ⟨by decide +kernel, by decide +kernel, by decide +kernel⟩, Or.inl ⟨by decide +kernel, by decide +kernel⟩, fun i a b => vac (by decide +kernel) a b, fun k u a b c => vac (by decide +kernel) (Int.le_trans a b) c, fun i a b => vac (by decide +kernel) a b⟩,
    ⟨⟨by decide +kernel, by decide +kernel, by decide +kernel⟩, fun i a b => vac (by decide +kernel) a b⟩,
    ⟨⟨by decide +kernel, by decide +kernel, by decide +kernel⟩, fun i a b => vac (by decide +kernel) a b⟩,
    ⟨⟨by decide +kernel, by decide +kernel, by decide +kernel⟩, fun i a b => vac (by decide +kernel) a b⟩,
    ⟨⟨by decide +kernel, by decide +kernel, by decide +kernel⟩, fun i a b => vac (by decide +kernel) a b, fun x y x0 x1 y0 y1 => ?_⟩,
    ⟨by decide +kernel, fun t t0 t1 => ⟨?_, ⟨zeq (by decide) (by decide), zle (by decide) (by decide) (by decide)⟩, fun i _ _ => ⟨zeq (by decide) (by decide), zle (by decide) (by decide) (by decide)⟩⟩⟩,
    ⟨fun s s0 s1 => ⟨⟨zeq (by decide) (by decide), zle (by decide) (by decide) (by decide)⟩, fun i a b => vac (z0 (by decide)) a b, fun i j a b c => vac (z0 (by decide)) (by omega) c, ?_⟩, by decide +kernel, by decide +kernel, by decide +kernel⟩,
    ⟨⟨by decide +kernel, by decide +kernel, by decide +kernel⟩, fun i a b => vac (by decide +kernel) a b, ⟨by decide +kernel, by decide +kernel, by decide +kernel⟩, fun i a b => vac (by decide +kernel) a b⟩,
    ⟨fun r _ _ => ⟨⟨zeq (by decide) (by decide), zle (by decide) (by decide) (by decide)⟩, fun i a b => vac (z0 (by decide)) a b⟩, ⟨by decide +kernel, by decide +kernel, by decide +kernel⟩, fun i a b => vac (by decide +kernel) a b⟩,
    ⟨⟨by decide +kernel, by decide +kernel, by decide +kernel⟩, fun i a b => vac (by decide +kernel) a b, ⟨by decide +kernel, by decide +kernel, by decide +kernel⟩, fun i a b => vac (by decide +kernel) a b⟩,
    ⟨⟨by decide +kernel, by decide +kernel, by decide +kernel⟩, fun i a b => vac (by decide +kernel) a b, ⟨by decide +kernel, by decide +kernel, by decide +kernel⟩, fun i a b => vac (by decide +kernel) a b, ⟨by decide +kernel, by decide +kernel, by decide +kernel⟩, fun i a b => vac (by decide +kernel) a b⟩,
    ⟨⟨by decide +kernel, by decide +kernel⟩, fun i a b => vac (by decide +kernel) a b⟩, fun i a b => vac (by decide +kernel) a b⟩
  · have h1 : gF gs 1 0 1 = 0 := by decide +kernel
    have h2 : gF gs 1 0 3 = 0 := by decide +kernel
    rw [h1, h2, cnt_0]
    decide
  · rw [g240, g53]
    unfold cbF alF
    by_cases e : x = y
    · rw [if_pos (by omega), if_pos (by omega)]
      exact ⟨rfl, Or.inr rfl⟩
    · rw [if_neg (by omega), if_neg (by omega)]
      exact ⟨rfl, Or.inl rfl⟩
  · rw [g270, g58]
    unfold tsF
    split <;> exact ⟨rfl, by decide, by decide⟩
  · rw [g95 ⟨s0, s1⟩, if_neg (by decide +kernel)]

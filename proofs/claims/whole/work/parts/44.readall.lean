def preR (Ls : List Ln) : LRes → LRes
  | .inl f => .inl f
  | .inr L => .inr (Ls ++ L)
theorem preR_app (Ls : List Ln) (z : Ln) (r1 : LRes) : preR Ls (preR [z] r1) = preR (Ls ++ [z]) r1 := by
  rcases r1 with f | L
  · rfl
  · show Sum.inr (Ls ++ ([z] ++ L)) = Sum.inr (Ls ++ [z] ++ L)
    rw [List.append_assoc]
/-- one line from a on ends at a2 -/
def LnX (b : Int → Int) (n a : Int) (z : Ln) (a2 : Int) : Prop := (∃ s1, z = (none, s1) ∧ EvX b n 0 0 a none (.inr (a2, s1)) ∧ sgn b n a2 ≠ 63) ∨ (∃ a1 s1 s2, z = (some s1, s2) ∧ EvX b n 0 0 a none (.inr (a1, s1)) ∧ sgn b n a1 = 63 ∧ EvX b n 0 0 (a1 + 1) none (.inr (a2, s2)))
section EVT
variable {b e : Int → Int} {n a a1 a2 f i m p ln g : Int} {s1 s2 : Sem} {z : Ln} {r1 : LRes} {Ls : List Ln}
theorem EvT_f1 (h : EvX b n 0 0 a none (.inl f)) : EvT b n a (.inl f) := ⟨1, _, h, rfl⟩
theorem EvT_f2 (h : EvX b n 0 0 a none (.inr (a1, s1))) (hc : sgn b n a1 = 63) (h2 : EvX b n 0 0 (a1 + 1) none (.inl f)) : EvT b n a (.inl f) := ⟨1, _, h, Or.inl ⟨hc, _, h2, rfl⟩⟩
theorem EvT_m (h : LnX b n a z a2) (h59 : sgn b n a2 = 59) (hr : EvT b n (a2 + 1) r1) : EvT b n a (preR [z] r1) := by
  obtain ⟨k, hk⟩ := hr
  rcases h with ⟨s1, rfl, h1, hc⟩ | ⟨a1, s1, s2, rfl, h1, hc, h2⟩
  · exact ⟨k + 1, _, h1, Or.inr ⟨hc, Or.inl ⟨h59, r1, hk, by cases r1 <;> rfl⟩⟩⟩
  · exact ⟨k + 1, _, h1, Or.inl ⟨hc, _, h2, Or.inl ⟨h59, r1, hk, by cases r1 <;> rfl⟩⟩⟩
theorem EvT_e (h : LnX b n a z a2) (h59 : sgn b n a2 ≠ 59) (hn : n ≤ a2) : EvT b n a (.inr [z]) := by
  rcases h with ⟨s1, rfl, h1, hc⟩ | ⟨a1, s1, s2, rfl, h1, hc, h2⟩
  · exact ⟨1, _, h1, Or.inr ⟨hc, Or.inr ⟨h59, Or.inr ⟨hn, rfl⟩⟩⟩⟩
  · exact ⟨1, _, h1, Or.inl ⟨hc, _, h2, Or.inr ⟨h59, Or.inr ⟨hn, rfl⟩⟩⟩⟩
theorem EvT_g (h : LnX b n a z a2) (h59 : sgn b n a2 ≠ 59) (hn : a2 < n) : EvT b n a (.inl a2) := by
  rcases h with ⟨s1, rfl, h1, hc⟩ | ⟨a1, s1, s2, rfl, h1, hc, h2⟩
  · exact ⟨1, _, h1, Or.inr ⟨hc, Or.inr ⟨h59, Or.inl ⟨hn, rfl⟩⟩⟩⟩
  · exact ⟨1, _, h1, Or.inl ⟨hc, _, h2, Or.inr ⟨h59, Or.inl ⟨hn, rfl⟩⟩⟩⟩
/-- i lines Ls read, now at p; m: more -/
def stT (b : Int → Int) (n i m p : Int) (Ls : List Ln) : Prop := i = Ls.length ∧ ((m = 1 ∧ i ≤ p ∧ ∀ r1, EvT b n p r1 → EvT b n 0 (preR Ls r1)) ∨ (m = 0 ∧ n ≤ p ∧ EvT b n 0 (.inr Ls)) ∨ (m = 0 ∧ p < n ∧ EvT b n 0 (.inl p)))
theorem stT_0 : stT b n 0 1 0 [] := ⟨rfl, Or.inl ⟨rfl, Int.le_refl _, fun r1 h => by rcases r1 with f | L <;> exact h⟩⟩
theorem stT_1 (h : stT b n i 1 p Ls) : i ≤ p ∧ ∀ r1, EvT b n p r1 → EvT b n 0 (preR Ls r1) := by
  rcases h.2 with h | h | h
  · exact h.2
  · exact absurd h.1 (by decide)
  · exact absurd h.1 (by decide)
theorem stT_ip (h : stT b n i m p Ls) (hm : m = 1) : i ≤ p := by subst hm; exact (stT_1 h).1
theorem stT_f (h : stT b n i 1 p Ls) (hf : EvT b n p (.inl f)) : EvT b n 0 (.inl f) := (stT_1 h).2 _ hf
theorem stT_len (h : i = (Ls.length : Int)) : i + 1 = ((Ls ++ [z]).length : Int) := by
  rw [List.length_append, h]; rfl
theorem stT_more (h : stT b n i 1 p Ls) (hl : LnX b n p z a2) (hp : p ≤ a2) (h59 : sgn b n a2 = 59) : stT b n (i + 1) 1 (a2 + 1) (Ls ++ [z]) :=
  ⟨stT_len h.1, Or.inl ⟨rfl, by have := (stT_1 h).1; omega, fun r1 hr => by rw [← preR_app]; exact (stT_1 h).2 _ (EvT_m hl h59 hr)⟩⟩
theorem stT_stop (h : stT b n i 1 p Ls) (hl : LnX b n p z a2) (h59 : sgn b n a2 ≠ 59) : stT b n (i + 1) 0 a2 (Ls ++ [z]) := by
  refine ⟨stT_len h.1, Or.inr ?_⟩
  rcases Int.lt_or_le a2 n with q | q
  · exact Or.inr ⟨rfl, q, (stT_1 h).2 _ (EvT_g hl h59 q)⟩
  · exact Or.inl ⟨rfl, q, (stT_1 h).2 _ (EvT_e hl h59 q)⟩
theorem stT_ok (h : stT b n i m p Ls) (hm : m ≠ 1) (hp : n ≤ p) : EvT b n 0 (.inr Ls) := by
  rcases h.2 with h | h | h
  · exact absurd h.1 hm
  · exact h.2.2
  · omega
theorem stT_bad (h : stT b n i m p Ls) (hm : m ≠ 1) (hp : p < n) : EvT b n 0 (.inl p) := by
  rcases h.2 with h | h | h
  · exact absurd h.1 hm
  · omega
  · exact h.2.2
theorem pick_neg (e : Int → Int) : ∀ (L : List Ln) (i : Int), 0 ≤ i → (pick e L i).1 < 0 → pick e L i = (-1, 0)
  | [], _, _, _ => rfl
  | y :: L, i, hi, h => by
    have e0 : pick e (y :: L) i = @ite _ (holds e y) (Classical.propDecidable _) (i, y.2 e) (pick e L (i + 1)) := rfl
    by_cases hh : holds e y
    · rw [e0, if_pos hh] at h
      exact absurd h (by show ¬ i < 0; omega)
    · rw [e0, if_neg hh] at h
      rw [e0, if_neg hh]
      exact pick_neg e L (i + 1) (by omega) h
theorem pick_step (h : pick e Ls 0 = (ln, g)) : (¬ ln < 0 → pick e (Ls ++ [z]) 0 = (ln, g)) ∧ (ln < 0 → holds e z → pick e (Ls ++ [z]) 0 = ((Ls.length : Int), z.2 e)) ∧ (ln < 0 → ¬ holds e z → pick e (Ls ++ [z]) 0 = (ln, g)) := by
  have h1 := pick_app e z Ls 0 (Int.le_refl _)
  rw [h] at h1
  refine ⟨fun q => ?_, fun q hz => ?_, fun q hz => ?_⟩
  · rw [h1]; exact if_neg q
  · rw [h1, if_pos (show (ln, g).1 < 0 from q), if_pos hz, Int.zero_add]
  · have h2 := pick_neg e Ls 0 (Int.le_refl _) (by rw [h]; exact q)
    rw [h1, if_pos (show (ln, g).1 < 0 from q), if_neg hz, ← h, h2]
end EVT
theorem sF_srt {G : PH} {c k k0 : Nat} {r r0 v u : Int} (h : k0 < k) : sF (sF G c r k v) c r0 k0 u = sF (sF G c r0 k0 u) c r k v := by
  refine Prod.ext (funext fun c' => funext fun r' => funext fun k' => ?_) rfl
  show (if c' = c ∧ k' = k0 ∧ r' = r0 then u else if c' = c ∧ k' = k ∧ r' = r then v else G.1 c' r' k') = if c' = c ∧ k' = k ∧ r' = r then v else if c' = c ∧ k' = k0 ∧ r' = r0 then u else G.1 c' r' k'
  by_cases q : k' = k
  · rw [if_neg (fun z => by omega)]
    by_cases z : c' = c ∧ k' = k ∧ r' = r
    · rw [if_pos z, if_pos z]
    · rw [if_neg z, if_neg z, if_neg (fun z => by omega)]
  · rw [if_neg (c := c' = c ∧ k' = k ∧ r' = r) (fun z => q z.2.1), if_neg (c := c' = c ∧ k' = k ∧ r' = r) (fun z => q z.2.1)]

theorem wd_m4_19 : Cond.methodLink "NameRolls$Reader" 19 Lib.Math.min.name ∈ UW := UW4_at 119 (by decide +kernel) rfl
theorem wd_f4_35 : Cond.fieldLink "NameRolls$Reader" 35 "NameRolls$Reader" "line" "I" ∈ UW := UW1_at 198 (by decide +kernel) rfl
theorem wd_f12_370 : Cond.fieldLink "NameRollsModel" 370 "NameRollsModel" "byLine" "I" ∈ UW := UW7_at 118 (by decide +kernel) rfl
theorem r_4_readAll_0 : RA M_X4_readAll 0 0 1 := Or.inl ⟨0, by decide +kernel, rfl, rfl⟩
theorem r_4_readAll_1 : RA M_X4_readAll 1 1 2 := Or.inl ⟨1, by decide +kernel, rfl, rfl⟩
theorem r_4_readAll_2 : RP M_X4_readAll 2 4 3 5 := ⟨15, _, by decide +kernel, rfl, by decide, wd_f4_15, rfl, Or.inl rfl, rfl⟩
theorem r_4_readAll_5 : RA M_X4_readAll 5 0 6 := Or.inl ⟨0, by decide +kernel, rfl, rfl⟩
theorem r_4_readAll_6 : RL M_X4_readAll 6 2 7 := Or.inl ⟨2, by decide +kernel, rfl, rfl⟩
theorem r_4_readAll_7 : RA M_X4_readAll 7 1 8 := Or.inl ⟨1, by decide +kernel, rfl, rfl⟩
theorem r_4_readAll_8 : RW M_X4_readAll 8 .arraylength 9 1 := ⟨by decide +kernel, rfl⟩
theorem r_4_readAll_9 : RKm M_X4_readAll 9 Lib.Math.min.name 12 := ⟨19, by decide +kernel, wd_m4_19, rfl⟩
theorem r_4_readAll_12 : RP M_X4_readAll 12 4 4 15 := ⟨25, _, by decide +kernel, rfl, by decide, wd_f4_25, rfl, Or.inl rfl, rfl⟩
theorem r_4_readAll_15 : RA M_X4_readAll 15 0 16 := Or.inl ⟨0, by decide +kernel, rfl, rfl⟩
theorem r_4_readAll_16 : RC M_X4_readAll 16 0 17 := ⟨⟨by decide, by decide⟩, Or.inl ⟨by decide +kernel, rfl⟩⟩
theorem r_4_readAll_17 : RP M_X4_readAll 17 4 5 20 := ⟨29, _, by decide +kernel, rfl, by decide, wd_f4_29, rfl, Or.inl rfl, rfl⟩
theorem r_4_readAll_20 : RA M_X4_readAll 20 0 21 := Or.inl ⟨0, by decide +kernel, rfl, rfl⟩
theorem r_4_readAll_21 : RC M_X4_readAll 21 (-1) 22 := ⟨⟨by decide, by decide⟩, Or.inl ⟨by decide +kernel, rfl⟩⟩
theorem r_4_readAll_22 : RP M_X4_readAll 22 4 1 25 := ⟨32, _, by decide +kernel, rfl, by decide, wd_f4_32, rfl, Or.inl rfl, rfl⟩
theorem r_4_readAll_25 : RA M_X4_readAll 25 0 26 := Or.inl ⟨0, by decide +kernel, rfl, rfl⟩
theorem r_4_readAll_26 : RC M_X4_readAll 26 (-1) 27 := ⟨⟨by decide, by decide⟩, Or.inl ⟨by decide +kernel, rfl⟩⟩
theorem r_4_readAll_27 : RP M_X4_readAll 27 4 2 30 := ⟨35, _, by decide +kernel, rfl, by decide, wd_f4_35, rfl, Or.inl rfl, rfl⟩
theorem r_4_readAll_30 : RC M_X4_readAll 30 0 31 := ⟨⟨by decide, by decide⟩, Or.inl ⟨by decide +kernel, rfl⟩⟩
theorem r_4_readAll_31 : RS M_X4_readAll 31 3 32 := ⟨by decide, Or.inl ⟨3, by decide +kernel, rfl, rfl⟩⟩
theorem r_4_readAll_32 : RC M_X4_readAll 32 1 33 := ⟨⟨by decide, by decide⟩, Or.inl ⟨by decide +kernel, rfl⟩⟩
theorem r_4_readAll_33 : RS M_X4_readAll 33 4 35 := ⟨by decide, Or.inr ⟨by decide +kernel, rfl⟩⟩
theorem r_4_readAll_35 : RC M_X4_readAll 35 0 36 := ⟨⟨by decide, by decide⟩, Or.inl ⟨by decide +kernel, rfl⟩⟩
theorem r_4_readAll_36 : RS M_X4_readAll 36 5 38 := ⟨by decide, Or.inr ⟨by decide +kernel, rfl⟩⟩
theorem r_4_readAll_38 : RL M_X4_readAll 38 5 40 := Or.inr ⟨by decide +kernel, rfl⟩
theorem r_4_readAll_40 : RA M_X4_readAll 40 0 41 := Or.inl ⟨0, by decide +kernel, rfl, rfl⟩
theorem r_4_readAll_41 : RG M_X4_readAll 41 4 4 44 := ⟨25, _, by decide +kernel, rfl, by decide, wd_f4_25, rfl, rfl⟩
theorem r_4_readAll_44 : RB M_X4_readAll 44 (.if_icmp .gt) 160 47 := ⟨116, by decide +kernel, rfl, rfl⟩
theorem r_4_readAll_160 : RA M_X4_readAll 160 0 161 := Or.inl ⟨0, by decide +kernel, rfl, rfl⟩
theorem r_4_readAll_161 : RG M_X4_readAll 161 4 5 164 := ⟨29, _, by decide +kernel, rfl, by decide, wd_f4_29, rfl, rfl⟩
theorem r_4_readAll_164 : RA M_X4_readAll 164 0 165 := Or.inl ⟨0, by decide +kernel, rfl, rfl⟩
theorem r_4_readAll_165 : RG M_X4_readAll 165 4 4 168 := ⟨25, _, by decide +kernel, rfl, by decide, wd_f4_25, rfl, rfl⟩
theorem r_4_readAll_168 : RB M_X4_readAll 168 (.if_icmp .ge) 175 171 := ⟨7, by decide +kernel, rfl, rfl⟩
theorem r_4_readAll_175 : RL M_X4_readAll 175 3 176 := Or.inl ⟨3, by decide +kernel, rfl, rfl⟩
theorem r_4_readAll_176 : RW M_X4_readAll 176 .ireturn 177 1 := ⟨by decide +kernel, rfl⟩
theorem r_4_readAll_171 : RA M_X4_readAll 171 0 172 := Or.inl ⟨0, by decide +kernel, rfl, rfl⟩
theorem r_4_readAll_172 : RKv M_X4_readAll M_X4_fail 172 0 4 175 := ⟨45, by decide +kernel, wd_m4_45, ok_M_X4_fail, wd_s4_fail, rfl⟩
theorem r_4_readAll_47 : RL M_X4_readAll 47 4 49 := Or.inr ⟨by decide +kernel, rfl⟩
theorem r_4_readAll_49 : RB M_X4_readAll 49 (.ifCond .eq) 160 52 := ⟨111, by decide +kernel, rfl, rfl⟩
theorem r_4_readAll_52 : RA M_X4_readAll 52 0 53 := Or.inl ⟨0, by decide +kernel, rfl, rfl⟩
theorem r_4_readAll_53 : RC M_X4_readAll 53 0 54 := ⟨⟨by decide, by decide⟩, Or.inl ⟨by decide +kernel, rfl⟩⟩
theorem r_4_readAll_54 : RC M_X4_readAll 54 0 55 := ⟨⟨by decide, by decide⟩, Or.inl ⟨by decide +kernel, rfl⟩⟩
theorem r_4_readAll_55 : RKv M_X4_readAll M_X4_readRank 55 2 4 58 := ⟨38, by decide +kernel, wd_m4_38, ok_M_X4_readRank, wd_s4_readRank, rfl⟩
theorem r_4_readAll_58 : RS M_X4_readAll 58 6 60 := ⟨by decide, Or.inr ⟨by decide +kernel, rfl⟩⟩
theorem r_4_readAll_60 : RC M_X4_readAll 60 1 61 := ⟨⟨by decide, by decide⟩, Or.inl ⟨by decide +kernel, rfl⟩⟩
theorem r_4_readAll_61 : RS M_X4_readAll 61 7 63 := ⟨by decide, Or.inr ⟨by decide +kernel, rfl⟩⟩
theorem r_4_readAll_63 : RA M_X4_readAll 63 0 64 := Or.inl ⟨0, by decide +kernel, rfl, rfl⟩
theorem r_4_readAll_64 : RKv M_X4_readAll M_X4_sign 64 0 4 67 := ⟨41, by decide +kernel, wd_m4_41, ok_M_X4_sign, wd_s4_sign, rfl⟩
theorem r_4_readAll_67 : RC M_X4_readAll 67 63 69 := ⟨⟨by decide, by decide⟩, Or.inr (Or.inl ⟨by decide +kernel, by decide, rfl⟩)⟩
theorem r_4_readAll_69 : RB M_X4_readAll 69 (.if_icmp .ne) 102 72 := ⟨33, by decide +kernel, rfl, rfl⟩
theorem r_4_readAll_102 : RL M_X4_readAll 102 7 104 := Or.inr ⟨by decide +kernel, rfl⟩
theorem r_4_readAll_104 : RB M_X4_readAll 104 (.ifCond .eq) 123 107 := ⟨19, by decide +kernel, rfl, rfl⟩
theorem r_4_readAll_107 : RA M_X4_readAll 107 0 108 := Or.inl ⟨0, by decide +kernel, rfl, rfl⟩
theorem r_4_readAll_108 : RG M_X4_readAll 108 4 2 111 := ⟨35, _, by decide +kernel, rfl, by decide, wd_f4_35, rfl, rfl⟩
theorem r_4_readAll_111 : RB M_X4_readAll 111 (.ifCond .ge) 123 114 := ⟨12, by decide +kernel, rfl, rfl⟩
theorem r_4_readAll_123 : RA M_X4_readAll 123 0 124 := Or.inl ⟨0, by decide +kernel, rfl, rfl⟩
theorem r_4_readAll_124 : RKv M_X4_readAll M_X4_sign 124 0 4 127 := ⟨41, by decide +kernel, wd_m4_41, ok_M_X4_sign, wd_s4_sign, rfl⟩
theorem r_4_readAll_127 : RC M_X4_readAll 127 59 129 := ⟨⟨by decide, by decide⟩, Or.inr (Or.inl ⟨by decide +kernel, by decide, rfl⟩)⟩
theorem r_4_readAll_129 : RB M_X4_readAll 129 (.if_icmp .ne) 136 132 := ⟨7, by decide +kernel, rfl, rfl⟩
theorem r_4_readAll_136 : RC M_X4_readAll 136 0 137 := ⟨⟨by decide, by decide⟩, Or.inl ⟨by decide +kernel, rfl⟩⟩
theorem r_4_readAll_137 : RS M_X4_readAll 137 4 139 := ⟨by decide, Or.inr ⟨by decide +kernel, rfl⟩⟩
theorem r_4_readAll_139 : RL M_X4_readAll 139 4 141 := Or.inr ⟨by decide +kernel, rfl⟩
theorem r_4_readAll_141 : RB M_X4_readAll 141 (.ifCond .eq) 154 144 := ⟨13, by decide +kernel, rfl, rfl⟩
theorem r_4_readAll_154 : RI M_X4_readAll 154 5 1 157 := ⟨by decide, by decide +kernel, rfl⟩
theorem r_4_readAll_157 : RB M_X4_readAll 157 .goto 38 160 := ⟨(-119), by decide +kernel, rfl, rfl⟩
theorem r_4_readAll_114 : RA M_X4_readAll 114 0 115 := Or.inl ⟨0, by decide +kernel, rfl, rfl⟩
theorem r_4_readAll_115 : RL M_X4_readAll 115 5 117 := Or.inr ⟨by decide +kernel, rfl⟩
theorem r_4_readAll_117 : RP M_X4_readAll 117 4 2 120 := ⟨35, _, by decide +kernel, rfl, by decide, wd_f4_35, rfl, Or.inl rfl, rfl⟩
theorem r_4_readAll_120 : RL M_X4_readAll 120 6 122 := Or.inr ⟨by decide +kernel, rfl⟩
theorem r_4_readAll_122 : RS M_X4_readAll 122 3 123 := ⟨by decide, Or.inl ⟨3, by decide +kernel, rfl, rfl⟩⟩
theorem r_4_readAll_132 : RC M_X4_readAll 132 1 133 := ⟨⟨by decide, by decide⟩, Or.inl ⟨by decide +kernel, rfl⟩⟩
theorem r_4_readAll_133 : RB M_X4_readAll 133 .goto 137 136 := ⟨4, by decide +kernel, rfl, rfl⟩
theorem r_4_readAll_144 : RA M_X4_readAll 144 0 145 := Or.inl ⟨0, by decide +kernel, rfl, rfl⟩
theorem r_4_readAll_145 : RW M_X4_readAll 145 .dup 146 1 := ⟨by decide +kernel, rfl⟩
theorem r_4_readAll_146 : RG M_X4_readAll 146 4 5 149 := ⟨29, _, by decide +kernel, rfl, by decide, wd_f4_29, rfl, rfl⟩
theorem r_4_readAll_149 : RC M_X4_readAll 149 1 150 := ⟨⟨by decide, by decide⟩, Or.inl ⟨by decide +kernel, rfl⟩⟩
theorem r_4_readAll_150 : RW M_X4_readAll 150 .iadd 151 1 := ⟨by decide +kernel, rfl⟩
theorem r_4_readAll_151 : RP M_X4_readAll 151 4 5 154 := ⟨29, _, by decide +kernel, rfl, by decide, wd_f4_29, rfl, Or.inl rfl, rfl⟩
theorem r_4_readAll_72 : RA M_X4_readAll 72 0 73 := Or.inl ⟨0, by decide +kernel, rfl, rfl⟩
theorem r_4_readAll_73 : RW M_X4_readAll 73 .dup 74 1 := ⟨by decide +kernel, rfl⟩
theorem r_4_readAll_74 : RG M_X4_readAll 74 4 5 77 := ⟨29, _, by decide +kernel, rfl, by decide, wd_f4_29, rfl, rfl⟩
theorem r_4_readAll_77 : RC M_X4_readAll 77 1 78 := ⟨⟨by decide, by decide⟩, Or.inl ⟨by decide +kernel, rfl⟩⟩
theorem r_4_readAll_78 : RW M_X4_readAll 78 .iadd 79 1 := ⟨by decide +kernel, rfl⟩
theorem r_4_readAll_79 : RP M_X4_readAll 79 4 5 82 := ⟨29, _, by decide +kernel, rfl, by decide, wd_f4_29, rfl, Or.inl rfl, rfl⟩
theorem r_4_readAll_82 : RL M_X4_readAll 82 6 84 := Or.inr ⟨by decide +kernel, rfl⟩
theorem r_4_readAll_84 : RB M_X4_readAll 84 (.ifCond .eq) 91 87 := ⟨7, by decide +kernel, rfl, rfl⟩
theorem r_4_readAll_91 : RC M_X4_readAll 91 0 92 := ⟨⟨by decide, by decide⟩, Or.inl ⟨by decide +kernel, rfl⟩⟩
theorem r_4_readAll_92 : RS M_X4_readAll 92 7 94 := ⟨by decide, Or.inr ⟨by decide +kernel, rfl⟩⟩
theorem r_4_readAll_94 : RA M_X4_readAll 94 0 95 := Or.inl ⟨0, by decide +kernel, rfl, rfl⟩
theorem r_4_readAll_95 : RC M_X4_readAll 95 0 96 := ⟨⟨by decide, by decide⟩, Or.inl ⟨by decide +kernel, rfl⟩⟩
theorem r_4_readAll_96 : RC M_X4_readAll 96 0 97 := ⟨⟨by decide, by decide⟩, Or.inl ⟨by decide +kernel, rfl⟩⟩
theorem r_4_readAll_97 : RKv M_X4_readAll M_X4_readRank 97 2 4 100 := ⟨38, by decide +kernel, wd_m4_38, ok_M_X4_readRank, wd_s4_readRank, rfl⟩
theorem r_4_readAll_100 : RS M_X4_readAll 100 6 102 := ⟨by decide, Or.inr ⟨by decide +kernel, rfl⟩⟩
theorem r_4_readAll_87 : RC M_X4_readAll 87 1 88 := ⟨⟨by decide, by decide⟩, Or.inl ⟨by decide +kernel, rfl⟩⟩
theorem r_4_readAll_88 : RB M_X4_readAll 88 .goto 92 91 := ⟨4, by decide +kernel, rfl, rfl⟩
theorem r_12_workOut_0 : RA M_X12_workOut 0 0 1 := Or.inl ⟨0, by decide +kernel, rfl, rfl⟩
theorem r_12_workOut_1 : RL M_X12_workOut 1 1 2 := Or.inl ⟨1, by decide +kernel, rfl, rfl⟩
theorem r_12_workOut_2 : RP M_X12_workOut 2 12 44 5 := ⟨331, _, by decide +kernel, rfl, by decide, wd_f12_331, rfl, Or.inl rfl, rfl⟩
theorem r_12_workOut_5 : RA M_X12_workOut 5 0 6 := Or.inl ⟨0, by decide +kernel, rfl, rfl⟩
theorem r_12_workOut_6 : RC M_X12_workOut 6 0 7 := ⟨⟨by decide, by decide⟩, Or.inl ⟨by decide +kernel, rfl⟩⟩
theorem r_12_workOut_7 : RP M_X12_workOut 7 12 45 10 := ⟨325, _, by decide +kernel, rfl, by decide, wd_f12_325, rfl, Or.inl rfl, rfl⟩
theorem r_12_workOut_10 : RA M_X12_workOut 10 0 11 := Or.inl ⟨0, by decide +kernel, rfl, rfl⟩
theorem r_12_workOut_11 : RL M_X12_workOut 11 2 12 := Or.inl ⟨2, by decide +kernel, rfl, rfl⟩
theorem r_12_workOut_12 : RP M_X12_workOut 12 12 46 15 := ⟨328, _, by decide +kernel, rfl, by decide, wd_f12_328, rfl, Or.inl rfl, rfl⟩
theorem r_12_workOut_15 : RA M_X12_workOut 15 0 16 := Or.inl ⟨0, by decide +kernel, rfl, rfl⟩
theorem r_12_workOut_16 : RC M_X12_workOut 16 (-1) 17 := ⟨⟨by decide, by decide⟩, Or.inl ⟨by decide +kernel, rfl⟩⟩
theorem r_12_workOut_17 : RP M_X12_workOut 17 12 47 20 := ⟨334, _, by decide +kernel, rfl, by decide, wd_f12_334, rfl, Or.inl rfl, rfl⟩
theorem r_12_workOut_20 : RA M_X12_workOut 20 0 21 := Or.inl ⟨0, by decide +kernel, rfl, rfl⟩
theorem r_12_workOut_21 : RC M_X12_workOut 21 0 22 := ⟨⟨by decide, by decide⟩, Or.inl ⟨by decide +kernel, rfl⟩⟩
theorem r_12_workOut_22 : RP M_X12_workOut 22 12 48 25 := ⟨358, _, by decide +kernel, rfl, by decide, wd_f12_358, rfl, Or.inl rfl, rfl⟩
theorem r_12_workOut_25 : RA M_X12_workOut 25 0 26 := Or.inl ⟨0, by decide +kernel, rfl, rfl⟩
theorem r_12_workOut_26 : RC M_X12_workOut 26 (-1) 27 := ⟨⟨by decide, by decide⟩, Or.inl ⟨by decide +kernel, rfl⟩⟩
theorem r_12_workOut_27 : RP M_X12_workOut 27 12 50 30 := ⟨370, _, by decide +kernel, rfl, by decide, wd_f12_370, rfl, Or.inl rfl, rfl⟩
theorem r_12_workOut_30 : RC M_X12_workOut 30 0 31 := ⟨⟨by decide, by decide⟩, Or.inl ⟨by decide +kernel, rfl⟩⟩
theorem r_12_workOut_31 : RS M_X12_workOut 31 3 32 := ⟨by decide, Or.inl ⟨3, by decide +kernel, rfl, rfl⟩⟩
theorem r_12_workOut_32 : RC M_X12_workOut 32 0 33 := ⟨⟨by decide, by decide⟩, Or.inl ⟨by decide +kernel, rfl⟩⟩
theorem r_12_workOut_33 : RS M_X12_workOut 33 4 35 := ⟨by decide, Or.inr ⟨by decide +kernel, rfl⟩⟩
theorem r_12_workOut_35 : RC M_X12_workOut 35 1 36 := ⟨⟨by decide, by decide⟩, Or.inl ⟨by decide +kernel, rfl⟩⟩
theorem r_12_workOut_36 : RS M_X12_workOut 36 5 38 := ⟨by decide, Or.inr ⟨by decide +kernel, rfl⟩⟩
theorem r_12_workOut_38 : RL M_X12_workOut 38 5 40 := Or.inr ⟨by decide +kernel, rfl⟩
theorem r_12_workOut_40 : RB M_X12_workOut 40 (.ifCond .eq) 121 43 := ⟨81, by decide +kernel, rfl, rfl⟩
theorem r_12_workOut_121 : RA M_X12_workOut 121 0 122 := Or.inl ⟨0, by decide +kernel, rfl, rfl⟩
theorem r_12_workOut_122 : RG M_X12_workOut 122 12 47 125 := ⟨334, _, by decide +kernel, rfl, by decide, wd_f12_334, rfl, rfl⟩
theorem r_12_workOut_125 : RB M_X12_workOut 125 (.ifCond .ge) 144 128 := ⟨19, by decide +kernel, rfl, rfl⟩
theorem r_12_workOut_128 : RA M_X12_workOut 128 0 129 := Or.inl ⟨0, by decide +kernel, rfl, rfl⟩
theorem r_12_workOut_129 : RG M_X12_workOut 129 12 45 132 := ⟨325, _, by decide +kernel, rfl, by decide, wd_f12_325, rfl, rfl⟩
theorem r_12_workOut_132 : RA M_X12_workOut 132 0 133 := Or.inl ⟨0, by decide +kernel, rfl, rfl⟩
theorem r_12_workOut_133 : RG M_X12_workOut 133 12 46 136 := ⟨328, _, by decide +kernel, rfl, by decide, wd_f12_328, rfl, rfl⟩
theorem r_12_workOut_136 : RB M_X12_workOut 136 (.if_icmp .ge) 144 139 := ⟨8, by decide +kernel, rfl, rfl⟩
theorem r_12_workOut_144 : RL M_X12_workOut 144 3 145 := Or.inl ⟨3, by decide +kernel, rfl, rfl⟩
theorem r_12_workOut_145 : RW M_X12_workOut 145 .ireturn 146 1 := ⟨by decide +kernel, rfl⟩
theorem r_12_workOut_139 : RA M_X12_workOut 139 0 140 := Or.inl ⟨0, by decide +kernel, rfl, rfl⟩
theorem r_12_workOut_140 : RKv M_X12_workOut M_X12_wrong 140 0 12 143 := ⟨361, by decide +kernel, wd_m12_361, ok_M_X12_wrong, wd_s12_wrong, rfl⟩
theorem r_12_workOut_143 : RW M_X12_workOut 143 .ireturn 144 1 := ⟨by decide +kernel, rfl⟩
theorem r_12_workOut_43 : RA M_X12_workOut 43 0 44 := Or.inl ⟨0, by decide +kernel, rfl, rfl⟩
theorem r_12_workOut_44 : RKv M_X12_workOut M_X12_either 44 0 12 47 := ⟨364, by decide +kernel, wd_m12_364, ok_M_X12_either, wd_s12_either, rfl⟩
theorem r_12_workOut_47 : RS M_X12_workOut 47 6 49 := ⟨by decide, Or.inr ⟨by decide +kernel, rfl⟩⟩
theorem r_12_workOut_49 : RC M_X12_workOut 49 1 50 := ⟨⟨by decide, by decide⟩, Or.inl ⟨by decide +kernel, rfl⟩⟩
theorem r_12_workOut_50 : RS M_X12_workOut 50 7 52 := ⟨by decide, Or.inr ⟨by decide +kernel, rfl⟩⟩
theorem r_12_workOut_52 : RA M_X12_workOut 52 0 53 := Or.inl ⟨0, by decide +kernel, rfl, rfl⟩
theorem r_12_workOut_53 : RC M_X12_workOut 53 63 55 := ⟨⟨by decide, by decide⟩, Or.inr (Or.inl ⟨by decide +kernel, by decide, rfl⟩)⟩
theorem r_12_workOut_55 : RKv M_X12_workOut M_X12_takes 55 1 12 58 := ⟨343, by decide +kernel, wd_m12_343, ok_M_X12_takes, wd_s12_takes, rfl⟩
theorem r_12_workOut_58 : RB M_X12_workOut 58 (.ifCond .eq) 79 61 := ⟨21, by decide +kernel, rfl, rfl⟩
theorem r_12_workOut_79 : RA M_X12_workOut 79 0 80 := Or.inl ⟨0, by decide +kernel, rfl, rfl⟩
theorem r_12_workOut_80 : RG M_X12_workOut 80 12 47 83 := ⟨334, _, by decide +kernel, rfl, by decide, wd_f12_334, rfl, rfl⟩
theorem r_12_workOut_83 : RB M_X12_workOut 83 (.ifCond .ge) 107 86 := ⟨24, by decide +kernel, rfl, rfl⟩
theorem r_12_workOut_107 : RI M_X12_workOut 107 4 1 110 := ⟨by decide, by decide +kernel, rfl⟩
theorem r_12_workOut_110 : RA M_X12_workOut 110 0 111 := Or.inl ⟨0, by decide +kernel, rfl, rfl⟩
theorem r_12_workOut_111 : RC M_X12_workOut 111 59 113 := ⟨⟨by decide, by decide⟩, Or.inr (Or.inl ⟨by decide +kernel, by decide, rfl⟩)⟩
theorem r_12_workOut_113 : RKv M_X12_workOut M_X12_takes 113 1 12 116 := ⟨343, by decide +kernel, wd_m12_343, ok_M_X12_takes, wd_s12_takes, rfl⟩
theorem r_12_workOut_116 : RS M_X12_workOut 116 5 118 := ⟨by decide, Or.inr ⟨by decide +kernel, rfl⟩⟩
theorem r_12_workOut_118 : RB M_X12_workOut 118 .goto 38 121 := ⟨(-80), by decide +kernel, rfl, rfl⟩
theorem r_12_workOut_86 : RL M_X12_workOut 86 7 88 := Or.inr ⟨by decide +kernel, rfl⟩
theorem r_12_workOut_88 : RB M_X12_workOut 88 (.ifCond .eq) 107 91 := ⟨19, by decide +kernel, rfl, rfl⟩
theorem r_12_workOut_91 : RA M_X12_workOut 91 0 92 := Or.inl ⟨0, by decide +kernel, rfl, rfl⟩
theorem r_12_workOut_92 : RG M_X12_workOut 92 12 50 95 := ⟨370, _, by decide +kernel, rfl, by decide, wd_f12_370, rfl, rfl⟩
theorem r_12_workOut_95 : RB M_X12_workOut 95 (.ifCond .ge) 107 98 := ⟨12, by decide +kernel, rfl, rfl⟩
theorem r_12_workOut_98 : RA M_X12_workOut 98 0 99 := Or.inl ⟨0, by decide +kernel, rfl, rfl⟩
theorem r_12_workOut_99 : RL M_X12_workOut 99 4 101 := Or.inr ⟨by decide +kernel, rfl⟩
theorem r_12_workOut_101 : RP M_X12_workOut 101 12 50 104 := ⟨370, _, by decide +kernel, rfl, by decide, wd_f12_370, rfl, Or.inl rfl, rfl⟩
theorem r_12_workOut_104 : RL M_X12_workOut 104 6 106 := Or.inr ⟨by decide +kernel, rfl⟩
theorem r_12_workOut_106 : RS M_X12_workOut 106 3 107 := ⟨by decide, Or.inl ⟨3, by decide +kernel, rfl, rfl⟩⟩
theorem r_12_workOut_61 : RL M_X12_workOut 61 6 63 := Or.inr ⟨by decide +kernel, rfl⟩
theorem r_12_workOut_63 : RB M_X12_workOut 63 (.ifCond .eq) 70 66 := ⟨7, by decide +kernel, rfl, rfl⟩
theorem r_12_workOut_70 : RC M_X12_workOut 70 0 71 := ⟨⟨by decide, by decide⟩, Or.inl ⟨by decide +kernel, rfl⟩⟩
theorem r_12_workOut_71 : RS M_X12_workOut 71 7 73 := ⟨by decide, Or.inr ⟨by decide +kernel, rfl⟩⟩
theorem r_12_workOut_73 : RA M_X12_workOut 73 0 74 := Or.inl ⟨0, by decide +kernel, rfl, rfl⟩
theorem r_12_workOut_74 : RKv M_X12_workOut M_X12_either 74 0 12 77 := ⟨364, by decide +kernel, wd_m12_364, ok_M_X12_either, wd_s12_either, rfl⟩
theorem r_12_workOut_77 : RS M_X12_workOut 77 6 79 := ⟨by decide, Or.inr ⟨by decide +kernel, rfl⟩⟩
theorem r_12_workOut_66 : RC M_X12_workOut 66 1 67 := ⟨⟨by decide, by decide⟩, Or.inl ⟨by decide +kernel, rfl⟩⟩
theorem r_12_workOut_67 : RB M_X12_workOut 67 .goto 71 70 := ⟨4, by decide +kernel, rfl, rfl⟩
set_option maxRecDepth 10000 in
theorem sp_X4_readAll {l : Launch} {w : Wo} {d : Nat} {G : PH} {P : Option PV → PH → Prop} {cb : Nat} {rb n : Int} {b e : Int → Int} (hsh : shp cb = (1, 160, 1)) (hb : ∀ j, 0 ≤ j → j < n → b j = pAnd (gA G cb rb j) 255) (hve : ∀ j, 0 ≤ j → j < 9 → (gA G 46 0 (j)) = e j) (hnn : 0 ≤ n ∧ n ≤ 160) (h1 : ∀ f v l, EvT b n 0 (.inl f) → 0 ≤ f → f ≤ n → P (some (vI v)) (sF (sF (sF (sF (sD G 4 0 3 (some (cb, rb))) 4 0 1 (f)) 4 0 2 (l)) 4 0 4 (n)) 4 0 5 (f))) (h2 : ∀ L, EvT b n 0 (.inr L) → P (some (vI ((pick e L 0).2))) (sF (sF (sF (sF (sD G 4 0 3 (some (cb, rb))) 4 0 1 (-1)) 4 0 2 ((pick e L 0).1)) 4 0 4 (n)) 4 0 5 (n))) : PW l w M_X4_readAll (d + 125) 0 [some (vR 4 (0)), some (vR cb (rb)), some (vI (n)), none, none, none, none, none] [] G P := by
  refine pw_aload r_4_readAll_0 rfl ?_
  refine pw_aload r_4_readAll_1 rfl ?_
  refine pw_putB r_4_readAll_2 ?_
  refine pw_aload r_4_readAll_5 rfl ?_
  refine pw_iload r_4_readAll_6 rfl ?_
  refine pw_aload r_4_readAll_7 rfl ?_
  refine pw_alen r_4_readAll_8 hsh (by decide) ?_
  refine pw_top (b := 160) rfl ?_
  refine pw_mmin r_4_readAll_9 rfl (Nat.le_of_ble_eq_true rfl) (Nat.le_refl _) ?_
  refine pw_top (b := n) (by omega) ?_
  refine pw_putI r_4_readAll_12 (by decide +kernel) fs_4_4 (by decide) ?_
  refine pw_aload r_4_readAll_15 rfl ?_
  refine pw_const r_4_readAll_16 ?_
  refine pw_putI r_4_readAll_17 (by decide +kernel) fs_4_5 (by decide) ?_
  refine pw_aload r_4_readAll_20 rfl ?_
  refine pw_const r_4_readAll_21 ?_
  refine pw_putI r_4_readAll_22 (by decide +kernel) fs_4_1 (by decide) ?_
  refine pw_aload r_4_readAll_25 rfl ?_
  refine pw_const r_4_readAll_26 ?_
  refine pw_putI r_4_readAll_27 (by decide +kernel) fs_4_2 (by decide) ?_
  refine pw_const r_4_readAll_30 ?_
  refine pw_istore (ls' := [some (vR 4 (0)), some (vR cb (rb)), some (vI (n)), some (vI (0)), none, none, none, none]) r_4_readAll_31 rfl rfl ?_
  refine pw_const r_4_readAll_32 ?_
  refine pw_istore (ls' := [some (vR 4 (0)), some (vR cb (rb)), some (vI (n)), some (vI (0)), some (vI (1)), none, none, none]) r_4_readAll_33 rfl rfl ?_
  refine pw_const r_4_readAll_35 ?_
  refine pw_istore (ls' := [some (vR 4 (0)), some (vR cb (rb)), some (vI (n)), some (vI (0)), some (vI (1)), some (vI (0)), none, none]) r_4_readAll_36 rfl rfl ?_
  have L38 : ∀ (nF : Nat) (i m g p ln : Int) (Ls : List Ln), (hS : stT b n i m p Ls) → (hm : m = 0 ∨ m = 1) → (hp : 0 ≤ p ∧ p ≤ n) → (hi : 0 ≤ i ∧ i ≤ n + 1) → (hg : pick e Ls 0 = (ln, g)) → (n + 2 - i).toNat < nF → PW l w M_X4_readAll (d + 125) 38 [some (vR 4 (0)), some (vR cb (rb)), some (vI (n)), some (vI (g)), some (vI (m)), some (vI (i)), none, none] [] (sF (sF (sF (sF (sD G 4 (0) (3) (some (cb, rb))) 4 (0) 1 (-1)) 4 (0) 2 (ln)) 4 (0) 4 (n)) 4 (0) 5 (p)) P := by
    intro nF
    induction nF with
    | zero => intro _ _ _ _ _ _ _ _ _ _ _ hM; exact absurd hM (Nat.not_lt_zero _)
    | succ nF ih38 =>
      intro i m g p ln Ls hS hm hp hi hg hM38
      have hip := stT_ip hS
      refine pw_iload r_4_readAll_38 rfl ?_
      refine pw_aload r_4_readAll_40 rfl ?_
      refine pw_getIv (v := n) r_4_readAll_41 fs_4_4 (by decide) (by first | rfl | simp [gF_sF, gF_sA, gF_uA, gF_sD, gA_sF, gA_sA, gA_uA, gA_sD, gD_sF, gD_sA, gD_uA, gD_sD]) ?_
      refine pw_icmp_gt r_4_readAll_44 (fun h44 => ?_) (fun h44 => ?_)
      · skip
        refine pw_aload r_4_readAll_160 rfl ?_
        refine pw_getIv (v := p) r_4_readAll_161 fs_4_5 (by decide) (by first | rfl | simp [gF_sF, gF_sA, gF_uA, gF_sD, gA_sF, gA_sA, gA_uA, gA_sD, gD_sF, gD_sA, gD_uA, gD_sD]) ?_
        refine pw_aload r_4_readAll_164 rfl ?_
        refine pw_getIv (v := n) r_4_readAll_165 fs_4_4 (by decide) (by first | rfl | simp [gF_sF, gF_sA, gF_uA, gF_sD, gA_sF, gA_sA, gA_uA, gA_sD, gD_sF, gD_sA, gD_uA, gD_sD]) ?_
        refine pw_icmp_ge r_4_readAll_168 (fun h168 => ?_) (fun h168 => ?_)
        · skip
          refine pw_iload r_4_readAll_175 rfl ?_
          refine pw_iret r_4_readAll_176 rfl (Nat.le_refl _) ⟨rfl, ?_⟩
          first | (have hb9 : EvT b n 0 (.inl p) := stT_bad hS (by omega) (by omega); exact h1 p _ _ hb9 (by omega) (by omega)) | (have hk9 : EvT b n 0 (.inr Ls) := stT_ok hS (by omega) (by omega); have h9 := h2 Ls hk9; rw [hg] at h9; rw [show p = n by omega]; exact h9)
        · skip
          refine pw_aload r_4_readAll_171 rfl ?_
          refine pw_callV (av := []) (st := []) (ls0 := [some (vR 4 (0))]) r_4_readAll_172 rfl rfl rfl (Nat.le_refl _) ?_
          refine flO (a := p) (by rfl) (by show (-1 : Int) < 0; decide) ?_
          refine pw_eqG (G' := sF (sF (sF (sF (sD G 4 (0) (3) (some (cb, rb))) 4 (0) 1 (p)) 4 (0) 2 (ln)) 4 (0) 4 (n)) 4 (0) 5 (p)) (by first | rfl | (simp (disch := decide) only [sF_sF, sF_srt])) ?_
          refine pw_iload r_4_readAll_175 rfl ?_
          refine pw_iret r_4_readAll_176 rfl (Nat.le_refl _) ⟨rfl, ?_⟩
          first | (have hb9 : EvT b n 0 (.inl p) := stT_bad hS (by omega) (by omega); exact h1 p _ _ hb9 (by omega) (by omega)) | (have hk9 : EvT b n 0 (.inr Ls) := stT_ok hS (by omega) (by omega); have h9 := h2 Ls hk9; rw [hg] at h9; rw [show p = n by omega]; exact h9)
      · skip
        refine pw_iload r_4_readAll_47 rfl ?_
        refine pw_if_eq r_4_readAll_49 (fun h49 => ?_) (fun h49 => ?_)
        · skip
          refine pw_aload r_4_readAll_160 rfl ?_
          refine pw_getIv (v := p) r_4_readAll_161 fs_4_5 (by decide) (by first | rfl | simp [gF_sF, gF_sA, gF_uA, gF_sD, gA_sF, gA_sA, gA_uA, gA_sD, gD_sF, gD_sA, gD_uA, gD_sD]) ?_
          refine pw_aload r_4_readAll_164 rfl ?_
          refine pw_getIv (v := n) r_4_readAll_165 fs_4_4 (by decide) (by first | rfl | simp [gF_sF, gF_sA, gF_uA, gF_sD, gA_sF, gA_sA, gA_uA, gA_sD, gD_sF, gD_sA, gD_uA, gD_sD]) ?_
          refine pw_icmp_ge r_4_readAll_168 (fun h168 => ?_) (fun h168 => ?_)
          · skip
            refine pw_iload r_4_readAll_175 rfl ?_
            refine pw_iret r_4_readAll_176 rfl (Nat.le_refl _) ⟨rfl, ?_⟩
            first | (have hb9 : EvT b n 0 (.inl p) := stT_bad hS (by omega) (by omega); exact h1 p _ _ hb9 (by omega) (by omega)) | (have hk9 : EvT b n 0 (.inr Ls) := stT_ok hS (by omega) (by omega); have h9 := h2 Ls hk9; rw [hg] at h9; rw [show p = n by omega]; exact h9)
          · skip
            refine pw_aload r_4_readAll_171 rfl ?_
            refine pw_callV (av := []) (st := []) (ls0 := [some (vR 4 (0))]) r_4_readAll_172 rfl rfl rfl (Nat.le_refl _) ?_
            refine flO (a := p) (by rfl) (by show (-1 : Int) < 0; decide) ?_
            refine pw_eqG (G' := sF (sF (sF (sF (sD G 4 (0) (3) (some (cb, rb))) 4 (0) 1 (p)) 4 (0) 2 (ln)) 4 (0) 4 (n)) 4 (0) 5 (p)) (by first | rfl | (simp (disch := decide) only [sF_sF, sF_srt])) ?_
            refine pw_iload r_4_readAll_175 rfl ?_
            refine pw_iret r_4_readAll_176 rfl (Nat.le_refl _) ⟨rfl, ?_⟩
            first | (have hb9 : EvT b n 0 (.inl p) := stT_bad hS (by omega) (by omega); exact h1 p _ _ hb9 (by omega) (by omega)) | (have hk9 : EvT b n 0 (.inr Ls) := stT_ok hS (by omega) (by omega); have h9 := h2 Ls hk9; rw [hg] at h9; rw [show p = n by omega]; exact h9)
        · skip
          have hm1 : m = 1 := by omega
          rw [hm1] at hS
          refine pw_aload r_4_readAll_52 rfl ?_
          refine pw_const r_4_readAll_53 ?_
          refine pw_const r_4_readAll_54 ?_
          refine pw_callV (av := [vI (0), vI (0)]) (st := []) (ls0 := [some (vR 4 (0)), some (vI (0)), some (vI (0)), none, none, none, none]) r_4_readAll_55 rfl rfl rfl (Nat.le_refl _) ?_
          refine sp_X4_readRank (120) (d := _) (cb := cb) (rb := rb) (n := n) (b := b) (e := e) (r := 0) (o := 0) (a := p) (by omega) (by first | exact hby | rfl) (hsh) (by exact hb) (by rfl) (by rfl) (by show (-1 : Int) < 0; decide) (by first | assumption | exact hnn | omega) (by first | assumption | exact haa | omega) (by exact hve) (by first | assumption | exact hr | omega) (by first | assumption | exact ho | omega) ?_ ?_
          · skip
            intro f1 v1 q1 q2 q3
            have hF : EvT b n 0 (.inl f1) := stT_f hS (EvT_f1 q1)
            refine pw_istore (ls' := [some (vR 4 (0)), some (vR cb (rb)), some (vI (n)), some (vI (g)), some (vI (m)), some (vI (i)), some (vI (v1)), none]) r_4_readAll_58 rfl rfl ?_
            refine pw_const r_4_readAll_60 ?_
            refine pw_istore (ls' := [some (vR 4 (0)), some (vR cb (rb)), some (vI (n)), some (vI (g)), some (vI (m)), some (vI (i)), some (vI (v1)), some (vI (1))]) r_4_readAll_61 rfl rfl ?_
            refine pw_aload r_4_readAll_63 rfl ?_
            refine pw_callV (av := []) (st := []) (ls0 := [some (vR 4 (0))]) r_4_readAll_64 rfl rfl rfl (Nat.le_refl _) ?_
            refine sgF (by first | (show 0 ≤ f1; omega) | (simp (disch := decide) only [gF_sF]; first | done | omega | (simp; first | done | omega))) ?_
            refine pw_const r_4_readAll_67 ?_
            refine pw_icmp_ne r_4_readAll_69 (fun h69 => ?_) (fun h69 => absurd h69 (by decide))
            refine pw_iload r_4_readAll_102 rfl ?_
            refine pw_if_eq r_4_readAll_104 (fun h104 => absurd h104 (by decide)) (fun h104 => ?_)
            refine pw_aload r_4_readAll_107 rfl ?_
            refine pw_getIv (v := ln) r_4_readAll_108 fs_4_2 (by decide) (by first | rfl | simp [gF_sF, gF_sA, gF_uA, gF_sD, gA_sF, gA_sA, gA_uA, gA_sD, gD_sF, gD_sA, gD_uA, gD_sD]) ?_
            refine pw_if_ge r_4_readAll_111 (fun h111 => ?_) (fun h111 => ?_)
            · skip
              refine pw_aload r_4_readAll_123 rfl ?_
              refine pw_callV (av := []) (st := []) (ls0 := [some (vR 4 (0))]) r_4_readAll_124 rfl rfl rfl (Nat.le_refl _) ?_
              refine sgF (by first | (show 0 ≤ f1; omega) | (simp (disch := decide) only [gF_sF]; first | done | omega | (simp; first | done | omega))) ?_
              refine pw_const r_4_readAll_127 ?_
              refine pw_icmp_ne r_4_readAll_129 (fun h129 => ?_) (fun h129 => absurd h129 (by decide))
              refine pw_const r_4_readAll_136 ?_
              refine pw_istore (ls' := [some (vR 4 (0)), some (vR cb (rb)), some (vI (n)), some (vI (g)), some (vI (0)), some (vI (i)), some (vI (v1)), some (vI (1))]) r_4_readAll_137 rfl rfl ?_
              refine pw_iload r_4_readAll_139 rfl ?_
              refine pw_if_eq r_4_readAll_141 (fun h141 => ?_) (fun h141 => absurd h141 (by decide))
              refine pw_eqG (G' := sF (sF (sF (sF (sD G 4 (0) (3) (some (cb, rb))) 4 (0) 1 (f1)) 4 (0) 2 (ln)) 4 (0) 4 (n)) 4 (0) 5 (f1)) (by first | rfl | (simp (disch := decide) only [sF_sF, sF_srt])) ?_
              refine pw_iinc (b := 0) (ls' := [some (vR 4 (0)), some (vR cb (rb)), some (vI (n)), some (vI (g)), some (vI (0)), some (vI ((i + 1))), some (vI (v1)), some (vI (1))]) r_4_readAll_154 rfl rfl (by omega) rfl ?_
              refine pw_goto r_4_readAll_157 ?_
              refine pw_iload r_4_readAll_38 rfl ?_
              refine pw_aload r_4_readAll_40 rfl ?_
              refine pw_getIv (v := n) r_4_readAll_41 fs_4_4 (by decide) (by first | rfl | simp [gF_sF, gF_sA, gF_uA, gF_sD, gA_sF, gA_sA, gA_uA, gA_sD, gD_sF, gD_sA, gD_uA, gD_sD]) ?_
              refine pw_icmp_gt r_4_readAll_44 (fun h44 => ?_) (fun h44 => ?_)
              · skip
                refine pw_aload r_4_readAll_160 rfl ?_
                refine pw_getIv (v := f1) r_4_readAll_161 fs_4_5 (by decide) (by first | rfl | simp [gF_sF, gF_sA, gF_uA, gF_sD, gA_sF, gA_sA, gA_uA, gA_sD, gD_sF, gD_sA, gD_uA, gD_sD]) ?_
                refine pw_aload r_4_readAll_164 rfl ?_
                refine pw_getIv (v := n) r_4_readAll_165 fs_4_4 (by decide) (by first | rfl | simp [gF_sF, gF_sA, gF_uA, gF_sD, gA_sF, gA_sA, gA_uA, gA_sD, gD_sF, gD_sA, gD_uA, gD_sD]) ?_
                refine pw_icmp_ge r_4_readAll_168 (fun h168 => ?_) (fun h168 => ?_)
                · skip
                  refine pw_iload r_4_readAll_175 rfl ?_
                  refine pw_iret r_4_readAll_176 rfl (Nat.le_refl _) ⟨rfl, ?_⟩
                  exact h1 f1 _ _ hF (by omega) (by omega)
                · skip
                  refine pw_aload r_4_readAll_171 rfl ?_
                  refine pw_callV (av := []) (st := []) (ls0 := [some (vR 4 (0))]) r_4_readAll_172 rfl rfl rfl (Nat.le_refl _) ?_
                  refine flF (by first | (show 0 ≤ f1; omega) | (simp (disch := decide) only [gF_sF]; first | done | omega | (simp; first | done | omega))) ?_
                  refine pw_iload r_4_readAll_175 rfl ?_
                  refine pw_iret r_4_readAll_176 rfl (Nat.le_refl _) ⟨rfl, ?_⟩
                  exact h1 f1 _ _ hF (by omega) (by omega)
              · skip
                refine pw_iload r_4_readAll_47 rfl ?_
                refine pw_if_eq r_4_readAll_49 (fun h49 => ?_) (fun h49 => absurd h49 (by decide))
                refine pw_aload r_4_readAll_160 rfl ?_
                refine pw_getIv (v := f1) r_4_readAll_161 fs_4_5 (by decide) (by first | rfl | simp [gF_sF, gF_sA, gF_uA, gF_sD, gA_sF, gA_sA, gA_uA, gA_sD, gD_sF, gD_sA, gD_uA, gD_sD]) ?_
                refine pw_aload r_4_readAll_164 rfl ?_
                refine pw_getIv (v := n) r_4_readAll_165 fs_4_4 (by decide) (by first | rfl | simp [gF_sF, gF_sA, gF_uA, gF_sD, gA_sF, gA_sA, gA_uA, gA_sD, gD_sF, gD_sA, gD_uA, gD_sD]) ?_
                refine pw_icmp_ge r_4_readAll_168 (fun h168 => ?_) (fun h168 => ?_)
                · skip
                  refine pw_iload r_4_readAll_175 rfl ?_
                  refine pw_iret r_4_readAll_176 rfl (Nat.le_refl _) ⟨rfl, ?_⟩
                  exact h1 f1 _ _ hF (by omega) (by omega)
                · skip
                  refine pw_aload r_4_readAll_171 rfl ?_
                  refine pw_callV (av := []) (st := []) (ls0 := [some (vR 4 (0))]) r_4_readAll_172 rfl rfl rfl (Nat.le_refl _) ?_
                  refine flF (by first | (show 0 ≤ f1; omega) | (simp (disch := decide) only [gF_sF]; first | done | omega | (simp; first | done | omega))) ?_
                  refine pw_iload r_4_readAll_175 rfl ?_
                  refine pw_iret r_4_readAll_176 rfl (Nat.le_refl _) ⟨rfl, ?_⟩
                  exact h1 f1 _ _ hF (by omega) (by omega)
            · skip
              refine pw_aload r_4_readAll_114 rfl ?_
              refine pw_iload r_4_readAll_115 rfl ?_
              refine pw_putI r_4_readAll_117 (by decide +kernel) fs_4_2 (by decide) ?_
              refine pw_iload r_4_readAll_120 rfl ?_
              refine pw_istore (ls' := [some (vR 4 (0)), some (vR cb (rb)), some (vI (n)), some (vI (v1)), some (vI (m)), some (vI (i)), some (vI (v1)), some (vI (1))]) r_4_readAll_122 rfl rfl ?_
              refine pw_aload r_4_readAll_123 rfl ?_
              refine pw_callV (av := []) (st := []) (ls0 := [some (vR 4 (0))]) r_4_readAll_124 rfl rfl rfl (Nat.le_refl _) ?_
              refine sgF (by first | (show 0 ≤ f1; omega) | (simp (disch := decide) only [gF_sF]; first | done | omega | (simp; first | done | omega))) ?_
              refine pw_const r_4_readAll_127 ?_
              refine pw_icmp_ne r_4_readAll_129 (fun h129 => ?_) (fun h129 => absurd h129 (by decide))
              refine pw_const r_4_readAll_136 ?_
              refine pw_istore (ls' := [some (vR 4 (0)), some (vR cb (rb)), some (vI (n)), some (vI (v1)), some (vI (0)), some (vI (i)), some (vI (v1)), some (vI (1))]) r_4_readAll_137 rfl rfl ?_
              refine pw_iload r_4_readAll_139 rfl ?_
              refine pw_if_eq r_4_readAll_141 (fun h141 => ?_) (fun h141 => absurd h141 (by decide))
              refine pw_eqG (G' := sF (sF (sF (sF (sD G 4 (0) (3) (some (cb, rb))) 4 (0) 1 (f1)) 4 (0) 2 (i)) 4 (0) 4 (n)) 4 (0) 5 (f1)) (by first | rfl | (simp (disch := decide) only [sF_sF, sF_srt])) ?_
              refine pw_iinc (b := 0) (ls' := [some (vR 4 (0)), some (vR cb (rb)), some (vI (n)), some (vI (v1)), some (vI (0)), some (vI ((i + 1))), some (vI (v1)), some (vI (1))]) r_4_readAll_154 rfl rfl (by omega) rfl ?_
              refine pw_goto r_4_readAll_157 ?_
              refine pw_iload r_4_readAll_38 rfl ?_
              refine pw_aload r_4_readAll_40 rfl ?_
              refine pw_getIv (v := n) r_4_readAll_41 fs_4_4 (by decide) (by first | rfl | simp [gF_sF, gF_sA, gF_uA, gF_sD, gA_sF, gA_sA, gA_uA, gA_sD, gD_sF, gD_sA, gD_uA, gD_sD]) ?_
              refine pw_icmp_gt r_4_readAll_44 (fun h44 => ?_) (fun h44 => ?_)
              · skip
                refine pw_aload r_4_readAll_160 rfl ?_
                refine pw_getIv (v := f1) r_4_readAll_161 fs_4_5 (by decide) (by first | rfl | simp [gF_sF, gF_sA, gF_uA, gF_sD, gA_sF, gA_sA, gA_uA, gA_sD, gD_sF, gD_sA, gD_uA, gD_sD]) ?_
                refine pw_aload r_4_readAll_164 rfl ?_
                refine pw_getIv (v := n) r_4_readAll_165 fs_4_4 (by decide) (by first | rfl | simp [gF_sF, gF_sA, gF_uA, gF_sD, gA_sF, gA_sA, gA_uA, gA_sD, gD_sF, gD_sA, gD_uA, gD_sD]) ?_
                refine pw_icmp_ge r_4_readAll_168 (fun h168 => ?_) (fun h168 => ?_)
                · skip
                  refine pw_iload r_4_readAll_175 rfl ?_
                  refine pw_iret r_4_readAll_176 rfl (Nat.le_refl _) ⟨rfl, ?_⟩
                  exact h1 f1 _ _ hF (by omega) (by omega)
                · skip
                  refine pw_aload r_4_readAll_171 rfl ?_
                  refine pw_callV (av := []) (st := []) (ls0 := [some (vR 4 (0))]) r_4_readAll_172 rfl rfl rfl (Nat.le_refl _) ?_
                  refine flF (by first | (show 0 ≤ f1; omega) | (simp (disch := decide) only [gF_sF]; first | done | omega | (simp; first | done | omega))) ?_
                  refine pw_iload r_4_readAll_175 rfl ?_
                  refine pw_iret r_4_readAll_176 rfl (Nat.le_refl _) ⟨rfl, ?_⟩
                  exact h1 f1 _ _ hF (by omega) (by omega)
              · skip
                refine pw_iload r_4_readAll_47 rfl ?_
                refine pw_if_eq r_4_readAll_49 (fun h49 => ?_) (fun h49 => absurd h49 (by decide))
                refine pw_aload r_4_readAll_160 rfl ?_
                refine pw_getIv (v := f1) r_4_readAll_161 fs_4_5 (by decide) (by first | rfl | simp [gF_sF, gF_sA, gF_uA, gF_sD, gA_sF, gA_sA, gA_uA, gA_sD, gD_sF, gD_sA, gD_uA, gD_sD]) ?_
                refine pw_aload r_4_readAll_164 rfl ?_
                refine pw_getIv (v := n) r_4_readAll_165 fs_4_4 (by decide) (by first | rfl | simp [gF_sF, gF_sA, gF_uA, gF_sD, gA_sF, gA_sA, gA_uA, gA_sD, gD_sF, gD_sA, gD_uA, gD_sD]) ?_
                refine pw_icmp_ge r_4_readAll_168 (fun h168 => ?_) (fun h168 => ?_)
                · skip
                  refine pw_iload r_4_readAll_175 rfl ?_
                  refine pw_iret r_4_readAll_176 rfl (Nat.le_refl _) ⟨rfl, ?_⟩
                  exact h1 f1 _ _ hF (by omega) (by omega)
                · skip
                  refine pw_aload r_4_readAll_171 rfl ?_
                  refine pw_callV (av := []) (st := []) (ls0 := [some (vR 4 (0))]) r_4_readAll_172 rfl rfl rfl (Nat.le_refl _) ?_
                  refine flF (by first | (show 0 ≤ f1; omega) | (simp (disch := decide) only [gF_sF]; first | done | omega | (simp; first | done | omega))) ?_
                  refine pw_iload r_4_readAll_175 rfl ?_
                  refine pw_iret r_4_readAll_176 rfl (Nat.le_refl _) ⟨rfl, ?_⟩
                  exact h1 f1 _ _ hF (by omega) (by omega)
          · skip
            intro a1 s1 q1 q2 q3
            have hl1 : sgn b n a1 ≠ -1 → a1 < n := sgn_lt
            refine pw_istore (ls' := [some (vR 4 (0)), some (vR cb (rb)), some (vI (n)), some (vI (g)), some (vI (m)), some (vI (i)), some (vI (s1 e)), none]) r_4_readAll_58 rfl rfl ?_
            refine pw_const r_4_readAll_60 ?_
            refine pw_istore (ls' := [some (vR 4 (0)), some (vR cb (rb)), some (vI (n)), some (vI (g)), some (vI (m)), some (vI (i)), some (vI (s1 e)), some (vI (1))]) r_4_readAll_61 rfl rfl ?_
            refine pw_aload r_4_readAll_63 rfl ?_
            refine pw_callV (av := []) (st := []) (ls0 := [some (vR 4 (0))]) r_4_readAll_64 rfl rfl rfl (Nat.le_refl _) ?_
            refine sgO (cb := cb) (rb := rb) (n := n) (b := b) (a := a1) (by first | exact hby | rfl) (hsh) (by exact hb) (by rfl) (by rfl) (by show (-1 : Int) < 0; decide) (by first | assumption | exact hnn | omega) (by first | assumption | exact haa | omega) ?_
            refine pw_const r_4_readAll_67 ?_
            refine pw_icmp_ne r_4_readAll_69 (fun h69 => ?_) (fun h69 => ?_)
            · skip
              refine pw_iload r_4_readAll_102 rfl ?_
              refine pw_if_eq r_4_readAll_104 (fun h104 => absurd h104 (by decide)) (fun h104 => ?_)
              refine pw_aload r_4_readAll_107 rfl ?_
              refine pw_getIv (v := ln) r_4_readAll_108 fs_4_2 (by decide) (by first | rfl | simp [gF_sF, gF_sA, gF_uA, gF_sD, gA_sF, gA_sA, gA_uA, gA_sD, gD_sF, gD_sA, gD_uA, gD_sD]) ?_
              refine pw_if_ge r_4_readAll_111 (fun h111 => ?_) (fun h111 => ?_)
              · skip
                refine pw_aload r_4_readAll_123 rfl ?_
                refine pw_callV (av := []) (st := []) (ls0 := [some (vR 4 (0))]) r_4_readAll_124 rfl rfl rfl (Nat.le_refl _) ?_
                refine sgO (cb := cb) (rb := rb) (n := n) (b := b) (a := a1) (by first | exact hby | rfl) (hsh) (by exact hb) (by rfl) (by rfl) (by show (-1 : Int) < 0; decide) (by first | assumption | exact hnn | omega) (by first | assumption | exact haa | omega) ?_
                refine pw_const r_4_readAll_127 ?_
                refine pw_icmp_ne r_4_readAll_129 (fun h129 => ?_) (fun h129 => ?_)
                · skip
                  refine pw_const r_4_readAll_136 ?_
                  refine pw_istore (ls' := [some (vR 4 (0)), some (vR cb (rb)), some (vI (n)), some (vI (g)), some (vI (0)), some (vI (i)), some (vI (s1 e)), some (vI (1))]) r_4_readAll_137 rfl rfl ?_
                  refine pw_iload r_4_readAll_139 rfl ?_
                  refine pw_if_eq r_4_readAll_141 (fun h141 => ?_) (fun h141 => absurd h141 (by decide))
                  refine pw_eqG (G' := sF (sF (sF (sF (sD G 4 (0) (3) (some (cb, rb))) 4 (0) 1 (-1)) 4 (0) 2 (ln)) 4 (0) 4 (n)) 4 (0) 5 (a1)) (by first | rfl | (simp (disch := decide) only [sF_sF, sF_srt])) ?_
                  refine pw_iinc (b := 0) (ls' := [some (vR 4 (0)), some (vR cb (rb)), some (vI (n)), some (vI (g)), some (vI (0)), some (vI ((i + 1))), some (vI (s1 e)), some (vI (1))]) r_4_readAll_154 rfl rfl (by omega) rfl ?_
                  refine pw_goto r_4_readAll_157 ?_
                  refine pw_weakL (ls' := [some (vR 4 (0)), some (vR cb (rb)), some (vI (n)), some (vI (g)), some (vI (0)), some (vI ((i + 1))), none, none]) (⟨rfl, ⟨rfl, ⟨rfl, ⟨rfl, ⟨rfl, ⟨rfl, trivial⟩⟩⟩⟩⟩⟩) ?_
                  exact ih38 ((i + 1)) (0) (g) (a1) (ln) (Ls ++ [(none, s1)]) (by first | exact stT_more hS (Or.inl ⟨s1, rfl, q1, by omega⟩) (by omega) (by omega) | exact stT_stop hS (Or.inl ⟨s1, rfl, q1, by omega⟩) (by omega)) (by first | exact Or.inl rfl | exact Or.inr rfl) (by first | assumption | omega) (by first | assumption | omega) (by have hil := hS.1; first | exact (pick_step hg).1 (by omega) | exact (pick_step hg).2.2 (by omega) (by show ¬ True; omega) | (by_cases q : ln < 0; exact (pick_step hg).2.2 q (by show ¬ True; omega); exact (pick_step hg).1 q) | (rw [hil]; exact (pick_step hg).2.1 (by omega) (by exact trivial))) (by omega)
                · skip
                  refine pw_const r_4_readAll_132 ?_
                  refine pw_goto r_4_readAll_133 ?_
                  refine pw_istore (ls' := [some (vR 4 (0)), some (vR cb (rb)), some (vI (n)), some (vI (g)), some (vI (1)), some (vI (i)), some (vI (s1 e)), some (vI (1))]) r_4_readAll_137 rfl rfl ?_
                  refine pw_iload r_4_readAll_139 rfl ?_
                  refine pw_if_eq r_4_readAll_141 (fun h141 => absurd h141 (by decide)) (fun h141 => ?_)
                  refine pw_aload r_4_readAll_144 rfl ?_
                  refine pw_dup r_4_readAll_145 rfl ?_
                  refine pw_getIv (v := a1) r_4_readAll_146 fs_4_5 (by decide) (by first | rfl | simp [gF_sF, gF_sA, gF_uA, gF_sD, gA_sF, gA_sA, gA_uA, gA_sD, gD_sF, gD_sA, gD_uA, gD_sD]) ?_
                  refine pw_const r_4_readAll_149 ?_
                  refine pw_iadd r_4_readAll_150 (by omega) ?_
                  refine pw_putI r_4_readAll_151 (by decide +kernel) fs_4_5 (by decide) ?_
                  refine pw_eqG (G' := sF (sF (sF (sF (sD G 4 (0) (3) (some (cb, rb))) 4 (0) 1 (-1)) 4 (0) 2 (ln)) 4 (0) 4 (n)) 4 (0) 5 ((a1 + 1))) (by first | rfl | (simp (disch := decide) only [sF_sF, sF_srt])) ?_
                  refine pw_iinc (b := 0) (ls' := [some (vR 4 (0)), some (vR cb (rb)), some (vI (n)), some (vI (g)), some (vI (1)), some (vI ((i + 1))), some (vI (s1 e)), some (vI (1))]) r_4_readAll_154 rfl rfl (by omega) rfl ?_
                  refine pw_goto r_4_readAll_157 ?_
                  refine pw_weakL (ls' := [some (vR 4 (0)), some (vR cb (rb)), some (vI (n)), some (vI (g)), some (vI (1)), some (vI ((i + 1))), none, none]) (⟨rfl, ⟨rfl, ⟨rfl, ⟨rfl, ⟨rfl, ⟨rfl, trivial⟩⟩⟩⟩⟩⟩) ?_
                  exact ih38 ((i + 1)) (1) (g) ((a1 + 1)) (ln) (Ls ++ [(none, s1)]) (by first | exact stT_more hS (Or.inl ⟨s1, rfl, q1, by omega⟩) (by omega) (by omega) | exact stT_stop hS (Or.inl ⟨s1, rfl, q1, by omega⟩) (by omega)) (by first | exact Or.inl rfl | exact Or.inr rfl) (by first | assumption | omega) (by first | assumption | omega) (by have hil := hS.1; first | exact (pick_step hg).1 (by omega) | exact (pick_step hg).2.2 (by omega) (by show ¬ True; omega) | (by_cases q : ln < 0; exact (pick_step hg).2.2 q (by show ¬ True; omega); exact (pick_step hg).1 q) | (rw [hil]; exact (pick_step hg).2.1 (by omega) (by exact trivial))) (by omega)
              · skip
                refine pw_aload r_4_readAll_114 rfl ?_
                refine pw_iload r_4_readAll_115 rfl ?_
                refine pw_putI r_4_readAll_117 (by decide +kernel) fs_4_2 (by decide) ?_
                refine pw_iload r_4_readAll_120 rfl ?_
                refine pw_istore (ls' := [some (vR 4 (0)), some (vR cb (rb)), some (vI (n)), some (vI (s1 e)), some (vI (m)), some (vI (i)), some (vI (s1 e)), some (vI (1))]) r_4_readAll_122 rfl rfl ?_
                refine pw_aload r_4_readAll_123 rfl ?_
                refine pw_callV (av := []) (st := []) (ls0 := [some (vR 4 (0))]) r_4_readAll_124 rfl rfl rfl (Nat.le_refl _) ?_
                refine sgO (cb := cb) (rb := rb) (n := n) (b := b) (a := a1) (by first | exact hby | rfl) (hsh) (by exact hb) (by rfl) (by rfl) (by show (-1 : Int) < 0; decide) (by first | assumption | exact hnn | omega) (by first | assumption | exact haa | omega) ?_
                refine pw_const r_4_readAll_127 ?_
                refine pw_icmp_ne r_4_readAll_129 (fun h129 => ?_) (fun h129 => ?_)
                · skip
                  refine pw_const r_4_readAll_136 ?_
                  refine pw_istore (ls' := [some (vR 4 (0)), some (vR cb (rb)), some (vI (n)), some (vI (s1 e)), some (vI (0)), some (vI (i)), some (vI (s1 e)), some (vI (1))]) r_4_readAll_137 rfl rfl ?_
                  refine pw_iload r_4_readAll_139 rfl ?_
                  refine pw_if_eq r_4_readAll_141 (fun h141 => ?_) (fun h141 => absurd h141 (by decide))
                  refine pw_eqG (G' := sF (sF (sF (sF (sD G 4 (0) (3) (some (cb, rb))) 4 (0) 1 (-1)) 4 (0) 2 (i)) 4 (0) 4 (n)) 4 (0) 5 (a1)) (by first | rfl | (simp (disch := decide) only [sF_sF, sF_srt])) ?_
                  refine pw_iinc (b := 0) (ls' := [some (vR 4 (0)), some (vR cb (rb)), some (vI (n)), some (vI (s1 e)), some (vI (0)), some (vI ((i + 1))), some (vI (s1 e)), some (vI (1))]) r_4_readAll_154 rfl rfl (by omega) rfl ?_
                  refine pw_goto r_4_readAll_157 ?_
                  refine pw_weakL (ls' := [some (vR 4 (0)), some (vR cb (rb)), some (vI (n)), some (vI (s1 e)), some (vI (0)), some (vI ((i + 1))), none, none]) (⟨rfl, ⟨rfl, ⟨rfl, ⟨rfl, ⟨rfl, ⟨rfl, trivial⟩⟩⟩⟩⟩⟩) ?_
                  exact ih38 ((i + 1)) (0) (s1 e) (a1) (i) (Ls ++ [(none, s1)]) (by first | exact stT_more hS (Or.inl ⟨s1, rfl, q1, by omega⟩) (by omega) (by omega) | exact stT_stop hS (Or.inl ⟨s1, rfl, q1, by omega⟩) (by omega)) (by first | exact Or.inl rfl | exact Or.inr rfl) (by first | assumption | omega) (by first | assumption | omega) (by have hil := hS.1; first | exact (pick_step hg).1 (by omega) | exact (pick_step hg).2.2 (by omega) (by show ¬ True; omega) | (by_cases q : ln < 0; exact (pick_step hg).2.2 q (by show ¬ True; omega); exact (pick_step hg).1 q) | (rw [hil]; exact (pick_step hg).2.1 (by omega) (by exact trivial))) (by omega)
                · skip
                  refine pw_const r_4_readAll_132 ?_
                  refine pw_goto r_4_readAll_133 ?_
                  refine pw_istore (ls' := [some (vR 4 (0)), some (vR cb (rb)), some (vI (n)), some (vI (s1 e)), some (vI (1)), some (vI (i)), some (vI (s1 e)), some (vI (1))]) r_4_readAll_137 rfl rfl ?_
                  refine pw_iload r_4_readAll_139 rfl ?_
                  refine pw_if_eq r_4_readAll_141 (fun h141 => absurd h141 (by decide)) (fun h141 => ?_)
                  refine pw_aload r_4_readAll_144 rfl ?_
                  refine pw_dup r_4_readAll_145 rfl ?_
                  refine pw_getIv (v := a1) r_4_readAll_146 fs_4_5 (by decide) (by first | rfl | simp [gF_sF, gF_sA, gF_uA, gF_sD, gA_sF, gA_sA, gA_uA, gA_sD, gD_sF, gD_sA, gD_uA, gD_sD]) ?_
                  refine pw_const r_4_readAll_149 ?_
                  refine pw_iadd r_4_readAll_150 (by omega) ?_
                  refine pw_putI r_4_readAll_151 (by decide +kernel) fs_4_5 (by decide) ?_
                  refine pw_eqG (G' := sF (sF (sF (sF (sD G 4 (0) (3) (some (cb, rb))) 4 (0) 1 (-1)) 4 (0) 2 (i)) 4 (0) 4 (n)) 4 (0) 5 ((a1 + 1))) (by first | rfl | (simp (disch := decide) only [sF_sF, sF_srt])) ?_
                  refine pw_iinc (b := 0) (ls' := [some (vR 4 (0)), some (vR cb (rb)), some (vI (n)), some (vI (s1 e)), some (vI (1)), some (vI ((i + 1))), some (vI (s1 e)), some (vI (1))]) r_4_readAll_154 rfl rfl (by omega) rfl ?_
                  refine pw_goto r_4_readAll_157 ?_
                  refine pw_weakL (ls' := [some (vR 4 (0)), some (vR cb (rb)), some (vI (n)), some (vI (s1 e)), some (vI (1)), some (vI ((i + 1))), none, none]) (⟨rfl, ⟨rfl, ⟨rfl, ⟨rfl, ⟨rfl, ⟨rfl, trivial⟩⟩⟩⟩⟩⟩) ?_
                  exact ih38 ((i + 1)) (1) (s1 e) ((a1 + 1)) (i) (Ls ++ [(none, s1)]) (by first | exact stT_more hS (Or.inl ⟨s1, rfl, q1, by omega⟩) (by omega) (by omega) | exact stT_stop hS (Or.inl ⟨s1, rfl, q1, by omega⟩) (by omega)) (by first | exact Or.inl rfl | exact Or.inr rfl) (by first | assumption | omega) (by first | assumption | omega) (by have hil := hS.1; first | exact (pick_step hg).1 (by omega) | exact (pick_step hg).2.2 (by omega) (by show ¬ True; omega) | (by_cases q : ln < 0; exact (pick_step hg).2.2 q (by show ¬ True; omega); exact (pick_step hg).1 q) | (rw [hil]; exact (pick_step hg).2.1 (by omega) (by exact trivial))) (by omega)
            · skip
              refine pw_aload r_4_readAll_72 rfl ?_
              refine pw_dup r_4_readAll_73 rfl ?_
              refine pw_getIv (v := a1) r_4_readAll_74 fs_4_5 (by decide) (by first | rfl | simp [gF_sF, gF_sA, gF_uA, gF_sD, gA_sF, gA_sA, gA_uA, gA_sD, gD_sF, gD_sA, gD_uA, gD_sD]) ?_
              refine pw_const r_4_readAll_77 ?_
              refine pw_iadd r_4_readAll_78 (by omega) ?_
              refine pw_putI r_4_readAll_79 (by decide +kernel) fs_4_5 (by decide) ?_
              refine pw_iload r_4_readAll_82 rfl ?_
              refine pw_if_eq r_4_readAll_84 (fun h84 => ?_) (fun h84 => ?_)
              · skip
                refine pw_const r_4_readAll_91 ?_
                refine pw_istore (ls' := [some (vR 4 (0)), some (vR cb (rb)), some (vI (n)), some (vI (g)), some (vI (m)), some (vI (i)), some (vI (s1 e)), some (vI (0))]) r_4_readAll_92 rfl rfl ?_
                refine pw_aload r_4_readAll_94 rfl ?_
                refine pw_const r_4_readAll_95 ?_
                refine pw_const r_4_readAll_96 ?_
                refine pw_callV (av := [vI (0), vI (0)]) (st := []) (ls0 := [some (vR 4 (0)), some (vI (0)), some (vI (0)), none, none, none, none]) r_4_readAll_97 rfl rfl rfl (Nat.le_refl _) ?_
                refine sp_X4_readRank (120) (d := _) (cb := cb) (rb := rb) (n := n) (b := b) (e := e) (r := 0) (o := 0) (a := (a1 + 1)) (by omega) (by first | exact hby | rfl) (hsh) (by exact hb) (by rfl) (by rfl) (by show (-1 : Int) < 0; decide) (by first | assumption | exact hnn | omega) (by first | assumption | exact haa | omega) (by exact hve) (by first | assumption | exact hr | omega) (by first | assumption | exact ho | omega) ?_ ?_
                · skip
                  intro f1 v1 p1 p2 p3
                  have hF : EvT b n 0 (.inl f1) := stT_f hS (EvT_f2 q1 (by omega) p1)
                  refine pw_istore (ls' := [some (vR 4 (0)), some (vR cb (rb)), some (vI (n)), some (vI (g)), some (vI (m)), some (vI (i)), some (vI (v1)), some (vI (0))]) r_4_readAll_100 rfl rfl ?_
                  refine pw_iload r_4_readAll_102 rfl ?_
                  refine pw_if_eq r_4_readAll_104 (fun h104 => ?_) (fun h104 => absurd h104 (by decide))
                  refine pw_aload r_4_readAll_123 rfl ?_
                  refine pw_callV (av := []) (st := []) (ls0 := [some (vR 4 (0))]) r_4_readAll_124 rfl rfl rfl (Nat.le_refl _) ?_
                  refine sgF (by first | (show 0 ≤ f1; omega) | (simp (disch := decide) only [gF_sF]; first | done | omega | (simp; first | done | omega))) ?_
                  refine pw_const r_4_readAll_127 ?_
                  refine pw_icmp_ne r_4_readAll_129 (fun h129 => ?_) (fun h129 => absurd h129 (by decide))
                  refine pw_const r_4_readAll_136 ?_
                  refine pw_istore (ls' := [some (vR 4 (0)), some (vR cb (rb)), some (vI (n)), some (vI (g)), some (vI (0)), some (vI (i)), some (vI (v1)), some (vI (0))]) r_4_readAll_137 rfl rfl ?_
                  refine pw_iload r_4_readAll_139 rfl ?_
                  refine pw_if_eq r_4_readAll_141 (fun h141 => ?_) (fun h141 => absurd h141 (by decide))
                  refine pw_eqG (G' := sF (sF (sF (sF (sD G 4 (0) (3) (some (cb, rb))) 4 (0) 1 (f1)) 4 (0) 2 (ln)) 4 (0) 4 (n)) 4 (0) 5 (f1)) (by first | rfl | (simp (disch := decide) only [sF_sF, sF_srt])) ?_
                  refine pw_iinc (b := 0) (ls' := [some (vR 4 (0)), some (vR cb (rb)), some (vI (n)), some (vI (g)), some (vI (0)), some (vI ((i + 1))), some (vI (v1)), some (vI (0))]) r_4_readAll_154 rfl rfl (by omega) rfl ?_
                  refine pw_goto r_4_readAll_157 ?_
                  refine pw_iload r_4_readAll_38 rfl ?_
                  refine pw_aload r_4_readAll_40 rfl ?_
                  refine pw_getIv (v := n) r_4_readAll_41 fs_4_4 (by decide) (by first | rfl | simp [gF_sF, gF_sA, gF_uA, gF_sD, gA_sF, gA_sA, gA_uA, gA_sD, gD_sF, gD_sA, gD_uA, gD_sD]) ?_
                  refine pw_icmp_gt r_4_readAll_44 (fun h44 => ?_) (fun h44 => ?_)
                  · skip
                    refine pw_aload r_4_readAll_160 rfl ?_
                    refine pw_getIv (v := f1) r_4_readAll_161 fs_4_5 (by decide) (by first | rfl | simp [gF_sF, gF_sA, gF_uA, gF_sD, gA_sF, gA_sA, gA_uA, gA_sD, gD_sF, gD_sA, gD_uA, gD_sD]) ?_
                    refine pw_aload r_4_readAll_164 rfl ?_
                    refine pw_getIv (v := n) r_4_readAll_165 fs_4_4 (by decide) (by first | rfl | simp [gF_sF, gF_sA, gF_uA, gF_sD, gA_sF, gA_sA, gA_uA, gA_sD, gD_sF, gD_sA, gD_uA, gD_sD]) ?_
                    refine pw_icmp_ge r_4_readAll_168 (fun h168 => ?_) (fun h168 => ?_)
                    · skip
                      refine pw_iload r_4_readAll_175 rfl ?_
                      refine pw_iret r_4_readAll_176 rfl (Nat.le_refl _) ⟨rfl, ?_⟩
                      exact h1 f1 _ _ hF (by omega) (by omega)
                    · skip
                      refine pw_aload r_4_readAll_171 rfl ?_
                      refine pw_callV (av := []) (st := []) (ls0 := [some (vR 4 (0))]) r_4_readAll_172 rfl rfl rfl (Nat.le_refl _) ?_
                      refine flF (by first | (show 0 ≤ f1; omega) | (simp (disch := decide) only [gF_sF]; first | done | omega | (simp; first | done | omega))) ?_
                      refine pw_iload r_4_readAll_175 rfl ?_
                      refine pw_iret r_4_readAll_176 rfl (Nat.le_refl _) ⟨rfl, ?_⟩
                      exact h1 f1 _ _ hF (by omega) (by omega)
                  · skip
                    refine pw_iload r_4_readAll_47 rfl ?_
                    refine pw_if_eq r_4_readAll_49 (fun h49 => ?_) (fun h49 => absurd h49 (by decide))
                    refine pw_aload r_4_readAll_160 rfl ?_
                    refine pw_getIv (v := f1) r_4_readAll_161 fs_4_5 (by decide) (by first | rfl | simp [gF_sF, gF_sA, gF_uA, gF_sD, gA_sF, gA_sA, gA_uA, gA_sD, gD_sF, gD_sA, gD_uA, gD_sD]) ?_
                    refine pw_aload r_4_readAll_164 rfl ?_
                    refine pw_getIv (v := n) r_4_readAll_165 fs_4_4 (by decide) (by first | rfl | simp [gF_sF, gF_sA, gF_uA, gF_sD, gA_sF, gA_sA, gA_uA, gA_sD, gD_sF, gD_sA, gD_uA, gD_sD]) ?_
                    refine pw_icmp_ge r_4_readAll_168 (fun h168 => ?_) (fun h168 => ?_)
                    · skip
                      refine pw_iload r_4_readAll_175 rfl ?_
                      refine pw_iret r_4_readAll_176 rfl (Nat.le_refl _) ⟨rfl, ?_⟩
                      exact h1 f1 _ _ hF (by omega) (by omega)
                    · skip
                      refine pw_aload r_4_readAll_171 rfl ?_
                      refine pw_callV (av := []) (st := []) (ls0 := [some (vR 4 (0))]) r_4_readAll_172 rfl rfl rfl (Nat.le_refl _) ?_
                      refine flF (by first | (show 0 ≤ f1; omega) | (simp (disch := decide) only [gF_sF]; first | done | omega | (simp; first | done | omega))) ?_
                      refine pw_iload r_4_readAll_175 rfl ?_
                      refine pw_iret r_4_readAll_176 rfl (Nat.le_refl _) ⟨rfl, ?_⟩
                      exact h1 f1 _ _ hF (by omega) (by omega)
                · skip
                  intro a2 s2 p1 p2 p3
                  have hl2 : sgn b n a2 ≠ -1 → a2 < n := sgn_lt
                  refine pw_istore (ls' := [some (vR 4 (0)), some (vR cb (rb)), some (vI (n)), some (vI (g)), some (vI (m)), some (vI (i)), some (vI (s2 e)), some (vI (0))]) r_4_readAll_100 rfl rfl ?_
                  refine pw_iload r_4_readAll_102 rfl ?_
                  refine pw_if_eq r_4_readAll_104 (fun h104 => ?_) (fun h104 => absurd h104 (by decide))
                  refine pw_aload r_4_readAll_123 rfl ?_
                  refine pw_callV (av := []) (st := []) (ls0 := [some (vR 4 (0))]) r_4_readAll_124 rfl rfl rfl (Nat.le_refl _) ?_
                  refine sgO (cb := cb) (rb := rb) (n := n) (b := b) (a := a2) (by first | exact hby | rfl) (hsh) (by exact hb) (by rfl) (by rfl) (by show (-1 : Int) < 0; decide) (by first | assumption | exact hnn | omega) (by first | assumption | exact haa | omega) ?_
                  refine pw_const r_4_readAll_127 ?_
                  refine pw_icmp_ne r_4_readAll_129 (fun h129 => ?_) (fun h129 => ?_)
                  · skip
                    refine pw_const r_4_readAll_136 ?_
                    refine pw_istore (ls' := [some (vR 4 (0)), some (vR cb (rb)), some (vI (n)), some (vI (g)), some (vI (0)), some (vI (i)), some (vI (s2 e)), some (vI (0))]) r_4_readAll_137 rfl rfl ?_
                    refine pw_iload r_4_readAll_139 rfl ?_
                    refine pw_if_eq r_4_readAll_141 (fun h141 => ?_) (fun h141 => absurd h141 (by decide))
                    refine pw_eqG (G' := sF (sF (sF (sF (sD G 4 (0) (3) (some (cb, rb))) 4 (0) 1 (-1)) 4 (0) 2 (ln)) 4 (0) 4 (n)) 4 (0) 5 (a2)) (by first | rfl | (simp (disch := decide) only [sF_sF, sF_srt])) ?_
                    refine pw_iinc (b := 0) (ls' := [some (vR 4 (0)), some (vR cb (rb)), some (vI (n)), some (vI (g)), some (vI (0)), some (vI ((i + 1))), some (vI (s2 e)), some (vI (0))]) r_4_readAll_154 rfl rfl (by omega) rfl ?_
                    refine pw_goto r_4_readAll_157 ?_
                    refine pw_weakL (ls' := [some (vR 4 (0)), some (vR cb (rb)), some (vI (n)), some (vI (g)), some (vI (0)), some (vI ((i + 1))), none, none]) (⟨rfl, ⟨rfl, ⟨rfl, ⟨rfl, ⟨rfl, ⟨rfl, trivial⟩⟩⟩⟩⟩⟩) ?_
                    exact ih38 ((i + 1)) (0) (g) (a2) (ln) (Ls ++ [(some s1, s2)]) (by first | exact stT_more hS (Or.inr ⟨a1, s1, s2, rfl, q1, by omega, p1⟩) (by omega) (by omega) | exact stT_stop hS (Or.inr ⟨a1, s1, s2, rfl, q1, by omega, p1⟩) (by omega)) (by first | exact Or.inl rfl | exact Or.inr rfl) (by first | assumption | omega) (by first | assumption | omega) (by have hil := hS.1; first | exact (pick_step hg).1 (by omega) | exact (pick_step hg).2.2 (by omega) (by show ¬ (s1 e ≠ 0); omega) | (by_cases q : ln < 0; exact (pick_step hg).2.2 q (by show ¬ (s1 e ≠ 0); omega); exact (pick_step hg).1 q) | (rw [hil]; exact (pick_step hg).2.1 (by omega) (by show s1 e ≠ 0; omega))) (by omega)
                  · skip
                    refine pw_const r_4_readAll_132 ?_
                    refine pw_goto r_4_readAll_133 ?_
                    refine pw_istore (ls' := [some (vR 4 (0)), some (vR cb (rb)), some (vI (n)), some (vI (g)), some (vI (1)), some (vI (i)), some (vI (s2 e)), some (vI (0))]) r_4_readAll_137 rfl rfl ?_
                    refine pw_iload r_4_readAll_139 rfl ?_
                    refine pw_if_eq r_4_readAll_141 (fun h141 => absurd h141 (by decide)) (fun h141 => ?_)
                    refine pw_aload r_4_readAll_144 rfl ?_
                    refine pw_dup r_4_readAll_145 rfl ?_
                    refine pw_getIv (v := a2) r_4_readAll_146 fs_4_5 (by decide) (by first | rfl | simp [gF_sF, gF_sA, gF_uA, gF_sD, gA_sF, gA_sA, gA_uA, gA_sD, gD_sF, gD_sA, gD_uA, gD_sD]) ?_
                    refine pw_const r_4_readAll_149 ?_
                    refine pw_iadd r_4_readAll_150 (by omega) ?_
                    refine pw_putI r_4_readAll_151 (by decide +kernel) fs_4_5 (by decide) ?_
                    refine pw_eqG (G' := sF (sF (sF (sF (sD G 4 (0) (3) (some (cb, rb))) 4 (0) 1 (-1)) 4 (0) 2 (ln)) 4 (0) 4 (n)) 4 (0) 5 ((a2 + 1))) (by first | rfl | (simp (disch := decide) only [sF_sF, sF_srt])) ?_
                    refine pw_iinc (b := 0) (ls' := [some (vR 4 (0)), some (vR cb (rb)), some (vI (n)), some (vI (g)), some (vI (1)), some (vI ((i + 1))), some (vI (s2 e)), some (vI (0))]) r_4_readAll_154 rfl rfl (by omega) rfl ?_
                    refine pw_goto r_4_readAll_157 ?_
                    refine pw_weakL (ls' := [some (vR 4 (0)), some (vR cb (rb)), some (vI (n)), some (vI (g)), some (vI (1)), some (vI ((i + 1))), none, none]) (⟨rfl, ⟨rfl, ⟨rfl, ⟨rfl, ⟨rfl, ⟨rfl, trivial⟩⟩⟩⟩⟩⟩) ?_
                    exact ih38 ((i + 1)) (1) (g) ((a2 + 1)) (ln) (Ls ++ [(some s1, s2)]) (by first | exact stT_more hS (Or.inr ⟨a1, s1, s2, rfl, q1, by omega, p1⟩) (by omega) (by omega) | exact stT_stop hS (Or.inr ⟨a1, s1, s2, rfl, q1, by omega, p1⟩) (by omega)) (by first | exact Or.inl rfl | exact Or.inr rfl) (by first | assumption | omega) (by first | assumption | omega) (by have hil := hS.1; first | exact (pick_step hg).1 (by omega) | exact (pick_step hg).2.2 (by omega) (by show ¬ (s1 e ≠ 0); omega) | (by_cases q : ln < 0; exact (pick_step hg).2.2 q (by show ¬ (s1 e ≠ 0); omega); exact (pick_step hg).1 q) | (rw [hil]; exact (pick_step hg).2.1 (by omega) (by show s1 e ≠ 0; omega))) (by omega)
              · skip
                refine pw_const r_4_readAll_87 ?_
                refine pw_goto r_4_readAll_88 ?_
                refine pw_istore (ls' := [some (vR 4 (0)), some (vR cb (rb)), some (vI (n)), some (vI (g)), some (vI (m)), some (vI (i)), some (vI (s1 e)), some (vI (1))]) r_4_readAll_92 rfl rfl ?_
                refine pw_aload r_4_readAll_94 rfl ?_
                refine pw_const r_4_readAll_95 ?_
                refine pw_const r_4_readAll_96 ?_
                refine pw_callV (av := [vI (0), vI (0)]) (st := []) (ls0 := [some (vR 4 (0)), some (vI (0)), some (vI (0)), none, none, none, none]) r_4_readAll_97 rfl rfl rfl (Nat.le_refl _) ?_
                refine sp_X4_readRank (120) (d := _) (cb := cb) (rb := rb) (n := n) (b := b) (e := e) (r := 0) (o := 0) (a := (a1 + 1)) (by omega) (by first | exact hby | rfl) (hsh) (by exact hb) (by rfl) (by rfl) (by show (-1 : Int) < 0; decide) (by first | assumption | exact hnn | omega) (by first | assumption | exact haa | omega) (by exact hve) (by first | assumption | exact hr | omega) (by first | assumption | exact ho | omega) ?_ ?_
                · skip
                  intro f1 v1 p1 p2 p3
                  have hF : EvT b n 0 (.inl f1) := stT_f hS (EvT_f2 q1 (by omega) p1)
                  refine pw_istore (ls' := [some (vR 4 (0)), some (vR cb (rb)), some (vI (n)), some (vI (g)), some (vI (m)), some (vI (i)), some (vI (v1)), some (vI (1))]) r_4_readAll_100 rfl rfl ?_
                  refine pw_iload r_4_readAll_102 rfl ?_
                  refine pw_if_eq r_4_readAll_104 (fun h104 => absurd h104 (by decide)) (fun h104 => ?_)
                  refine pw_aload r_4_readAll_107 rfl ?_
                  refine pw_getIv (v := ln) r_4_readAll_108 fs_4_2 (by decide) (by first | rfl | simp [gF_sF, gF_sA, gF_uA, gF_sD, gA_sF, gA_sA, gA_uA, gA_sD, gD_sF, gD_sA, gD_uA, gD_sD]) ?_
                  refine pw_if_ge r_4_readAll_111 (fun h111 => ?_) (fun h111 => ?_)
                  · skip
                    refine pw_aload r_4_readAll_123 rfl ?_
                    refine pw_callV (av := []) (st := []) (ls0 := [some (vR 4 (0))]) r_4_readAll_124 rfl rfl rfl (Nat.le_refl _) ?_
                    refine sgF (by first | (show 0 ≤ f1; omega) | (simp (disch := decide) only [gF_sF]; first | done | omega | (simp; first | done | omega))) ?_
                    refine pw_const r_4_readAll_127 ?_
                    refine pw_icmp_ne r_4_readAll_129 (fun h129 => ?_) (fun h129 => absurd h129 (by decide))
                    refine pw_const r_4_readAll_136 ?_
                    refine pw_istore (ls' := [some (vR 4 (0)), some (vR cb (rb)), some (vI (n)), some (vI (g)), some (vI (0)), some (vI (i)), some (vI (v1)), some (vI (1))]) r_4_readAll_137 rfl rfl ?_
                    refine pw_iload r_4_readAll_139 rfl ?_
                    refine pw_if_eq r_4_readAll_141 (fun h141 => ?_) (fun h141 => absurd h141 (by decide))
                    refine pw_eqG (G' := sF (sF (sF (sF (sD G 4 (0) (3) (some (cb, rb))) 4 (0) 1 (f1)) 4 (0) 2 (ln)) 4 (0) 4 (n)) 4 (0) 5 (f1)) (by first | rfl | (simp (disch := decide) only [sF_sF, sF_srt])) ?_
                    refine pw_iinc (b := 0) (ls' := [some (vR 4 (0)), some (vR cb (rb)), some (vI (n)), some (vI (g)), some (vI (0)), some (vI ((i + 1))), some (vI (v1)), some (vI (1))]) r_4_readAll_154 rfl rfl (by omega) rfl ?_
                    refine pw_goto r_4_readAll_157 ?_
                    refine pw_iload r_4_readAll_38 rfl ?_
                    refine pw_aload r_4_readAll_40 rfl ?_
                    refine pw_getIv (v := n) r_4_readAll_41 fs_4_4 (by decide) (by first | rfl | simp [gF_sF, gF_sA, gF_uA, gF_sD, gA_sF, gA_sA, gA_uA, gA_sD, gD_sF, gD_sA, gD_uA, gD_sD]) ?_
                    refine pw_icmp_gt r_4_readAll_44 (fun h44 => ?_) (fun h44 => ?_)
                    · skip
                      refine pw_aload r_4_readAll_160 rfl ?_
                      refine pw_getIv (v := f1) r_4_readAll_161 fs_4_5 (by decide) (by first | rfl | simp [gF_sF, gF_sA, gF_uA, gF_sD, gA_sF, gA_sA, gA_uA, gA_sD, gD_sF, gD_sA, gD_uA, gD_sD]) ?_
                      refine pw_aload r_4_readAll_164 rfl ?_
                      refine pw_getIv (v := n) r_4_readAll_165 fs_4_4 (by decide) (by first | rfl | simp [gF_sF, gF_sA, gF_uA, gF_sD, gA_sF, gA_sA, gA_uA, gA_sD, gD_sF, gD_sA, gD_uA, gD_sD]) ?_
                      refine pw_icmp_ge r_4_readAll_168 (fun h168 => ?_) (fun h168 => ?_)
                      · skip
                        refine pw_iload r_4_readAll_175 rfl ?_
                        refine pw_iret r_4_readAll_176 rfl (Nat.le_refl _) ⟨rfl, ?_⟩
                        exact h1 f1 _ _ hF (by omega) (by omega)
                      · skip
                        refine pw_aload r_4_readAll_171 rfl ?_
                        refine pw_callV (av := []) (st := []) (ls0 := [some (vR 4 (0))]) r_4_readAll_172 rfl rfl rfl (Nat.le_refl _) ?_
                        refine flF (by first | (show 0 ≤ f1; omega) | (simp (disch := decide) only [gF_sF]; first | done | omega | (simp; first | done | omega))) ?_
                        refine pw_iload r_4_readAll_175 rfl ?_
                        refine pw_iret r_4_readAll_176 rfl (Nat.le_refl _) ⟨rfl, ?_⟩
                        exact h1 f1 _ _ hF (by omega) (by omega)
                    · skip
                      refine pw_iload r_4_readAll_47 rfl ?_
                      refine pw_if_eq r_4_readAll_49 (fun h49 => ?_) (fun h49 => absurd h49 (by decide))
                      refine pw_aload r_4_readAll_160 rfl ?_
                      refine pw_getIv (v := f1) r_4_readAll_161 fs_4_5 (by decide) (by first | rfl | simp [gF_sF, gF_sA, gF_uA, gF_sD, gA_sF, gA_sA, gA_uA, gA_sD, gD_sF, gD_sA, gD_uA, gD_sD]) ?_
                      refine pw_aload r_4_readAll_164 rfl ?_
                      refine pw_getIv (v := n) r_4_readAll_165 fs_4_4 (by decide) (by first | rfl | simp [gF_sF, gF_sA, gF_uA, gF_sD, gA_sF, gA_sA, gA_uA, gA_sD, gD_sF, gD_sA, gD_uA, gD_sD]) ?_
                      refine pw_icmp_ge r_4_readAll_168 (fun h168 => ?_) (fun h168 => ?_)
                      · skip
                        refine pw_iload r_4_readAll_175 rfl ?_
                        refine pw_iret r_4_readAll_176 rfl (Nat.le_refl _) ⟨rfl, ?_⟩
                        exact h1 f1 _ _ hF (by omega) (by omega)
                      · skip
                        refine pw_aload r_4_readAll_171 rfl ?_
                        refine pw_callV (av := []) (st := []) (ls0 := [some (vR 4 (0))]) r_4_readAll_172 rfl rfl rfl (Nat.le_refl _) ?_
                        refine flF (by first | (show 0 ≤ f1; omega) | (simp (disch := decide) only [gF_sF]; first | done | omega | (simp; first | done | omega))) ?_
                        refine pw_iload r_4_readAll_175 rfl ?_
                        refine pw_iret r_4_readAll_176 rfl (Nat.le_refl _) ⟨rfl, ?_⟩
                        exact h1 f1 _ _ hF (by omega) (by omega)
                  · skip
                    refine pw_aload r_4_readAll_114 rfl ?_
                    refine pw_iload r_4_readAll_115 rfl ?_
                    refine pw_putI r_4_readAll_117 (by decide +kernel) fs_4_2 (by decide) ?_
                    refine pw_iload r_4_readAll_120 rfl ?_
                    refine pw_istore (ls' := [some (vR 4 (0)), some (vR cb (rb)), some (vI (n)), some (vI (v1)), some (vI (m)), some (vI (i)), some (vI (v1)), some (vI (1))]) r_4_readAll_122 rfl rfl ?_
                    refine pw_aload r_4_readAll_123 rfl ?_
                    refine pw_callV (av := []) (st := []) (ls0 := [some (vR 4 (0))]) r_4_readAll_124 rfl rfl rfl (Nat.le_refl _) ?_
                    refine sgF (by first | (show 0 ≤ f1; omega) | (simp (disch := decide) only [gF_sF]; first | done | omega | (simp; first | done | omega))) ?_
                    refine pw_const r_4_readAll_127 ?_
                    refine pw_icmp_ne r_4_readAll_129 (fun h129 => ?_) (fun h129 => absurd h129 (by decide))
                    refine pw_const r_4_readAll_136 ?_
                    refine pw_istore (ls' := [some (vR 4 (0)), some (vR cb (rb)), some (vI (n)), some (vI (v1)), some (vI (0)), some (vI (i)), some (vI (v1)), some (vI (1))]) r_4_readAll_137 rfl rfl ?_
                    refine pw_iload r_4_readAll_139 rfl ?_
                    refine pw_if_eq r_4_readAll_141 (fun h141 => ?_) (fun h141 => absurd h141 (by decide))
                    refine pw_eqG (G' := sF (sF (sF (sF (sD G 4 (0) (3) (some (cb, rb))) 4 (0) 1 (f1)) 4 (0) 2 (i)) 4 (0) 4 (n)) 4 (0) 5 (f1)) (by first | rfl | (simp (disch := decide) only [sF_sF, sF_srt])) ?_
                    refine pw_iinc (b := 0) (ls' := [some (vR 4 (0)), some (vR cb (rb)), some (vI (n)), some (vI (v1)), some (vI (0)), some (vI ((i + 1))), some (vI (v1)), some (vI (1))]) r_4_readAll_154 rfl rfl (by omega) rfl ?_
                    refine pw_goto r_4_readAll_157 ?_
                    refine pw_iload r_4_readAll_38 rfl ?_
                    refine pw_aload r_4_readAll_40 rfl ?_
                    refine pw_getIv (v := n) r_4_readAll_41 fs_4_4 (by decide) (by first | rfl | simp [gF_sF, gF_sA, gF_uA, gF_sD, gA_sF, gA_sA, gA_uA, gA_sD, gD_sF, gD_sA, gD_uA, gD_sD]) ?_
                    refine pw_icmp_gt r_4_readAll_44 (fun h44 => ?_) (fun h44 => ?_)
                    · skip
                      refine pw_aload r_4_readAll_160 rfl ?_
                      refine pw_getIv (v := f1) r_4_readAll_161 fs_4_5 (by decide) (by first | rfl | simp [gF_sF, gF_sA, gF_uA, gF_sD, gA_sF, gA_sA, gA_uA, gA_sD, gD_sF, gD_sA, gD_uA, gD_sD]) ?_
                      refine pw_aload r_4_readAll_164 rfl ?_
                      refine pw_getIv (v := n) r_4_readAll_165 fs_4_4 (by decide) (by first | rfl | simp [gF_sF, gF_sA, gF_uA, gF_sD, gA_sF, gA_sA, gA_uA, gA_sD, gD_sF, gD_sA, gD_uA, gD_sD]) ?_
                      refine pw_icmp_ge r_4_readAll_168 (fun h168 => ?_) (fun h168 => ?_)
                      · skip
                        refine pw_iload r_4_readAll_175 rfl ?_
                        refine pw_iret r_4_readAll_176 rfl (Nat.le_refl _) ⟨rfl, ?_⟩
                        exact h1 f1 _ _ hF (by omega) (by omega)
                      · skip
                        refine pw_aload r_4_readAll_171 rfl ?_
                        refine pw_callV (av := []) (st := []) (ls0 := [some (vR 4 (0))]) r_4_readAll_172 rfl rfl rfl (Nat.le_refl _) ?_
                        refine flF (by first | (show 0 ≤ f1; omega) | (simp (disch := decide) only [gF_sF]; first | done | omega | (simp; first | done | omega))) ?_
                        refine pw_iload r_4_readAll_175 rfl ?_
                        refine pw_iret r_4_readAll_176 rfl (Nat.le_refl _) ⟨rfl, ?_⟩
                        exact h1 f1 _ _ hF (by omega) (by omega)
                    · skip
                      refine pw_iload r_4_readAll_47 rfl ?_
                      refine pw_if_eq r_4_readAll_49 (fun h49 => ?_) (fun h49 => absurd h49 (by decide))
                      refine pw_aload r_4_readAll_160 rfl ?_
                      refine pw_getIv (v := f1) r_4_readAll_161 fs_4_5 (by decide) (by first | rfl | simp [gF_sF, gF_sA, gF_uA, gF_sD, gA_sF, gA_sA, gA_uA, gA_sD, gD_sF, gD_sA, gD_uA, gD_sD]) ?_
                      refine pw_aload r_4_readAll_164 rfl ?_
                      refine pw_getIv (v := n) r_4_readAll_165 fs_4_4 (by decide) (by first | rfl | simp [gF_sF, gF_sA, gF_uA, gF_sD, gA_sF, gA_sA, gA_uA, gA_sD, gD_sF, gD_sA, gD_uA, gD_sD]) ?_
                      refine pw_icmp_ge r_4_readAll_168 (fun h168 => ?_) (fun h168 => ?_)
                      · skip
                        refine pw_iload r_4_readAll_175 rfl ?_
                        refine pw_iret r_4_readAll_176 rfl (Nat.le_refl _) ⟨rfl, ?_⟩
                        exact h1 f1 _ _ hF (by omega) (by omega)
                      · skip
                        refine pw_aload r_4_readAll_171 rfl ?_
                        refine pw_callV (av := []) (st := []) (ls0 := [some (vR 4 (0))]) r_4_readAll_172 rfl rfl rfl (Nat.le_refl _) ?_
                        refine flF (by first | (show 0 ≤ f1; omega) | (simp (disch := decide) only [gF_sF]; first | done | omega | (simp; first | done | omega))) ?_
                        refine pw_iload r_4_readAll_175 rfl ?_
                        refine pw_iret r_4_readAll_176 rfl (Nat.le_refl _) ⟨rfl, ?_⟩
                        exact h1 f1 _ _ hF (by omega) (by omega)
                · skip
                  intro a2 s2 p1 p2 p3
                  have hl2 : sgn b n a2 ≠ -1 → a2 < n := sgn_lt
                  refine pw_istore (ls' := [some (vR 4 (0)), some (vR cb (rb)), some (vI (n)), some (vI (g)), some (vI (m)), some (vI (i)), some (vI (s2 e)), some (vI (1))]) r_4_readAll_100 rfl rfl ?_
                  refine pw_iload r_4_readAll_102 rfl ?_
                  refine pw_if_eq r_4_readAll_104 (fun h104 => absurd h104 (by decide)) (fun h104 => ?_)
                  refine pw_aload r_4_readAll_107 rfl ?_
                  refine pw_getIv (v := ln) r_4_readAll_108 fs_4_2 (by decide) (by first | rfl | simp [gF_sF, gF_sA, gF_uA, gF_sD, gA_sF, gA_sA, gA_uA, gA_sD, gD_sF, gD_sA, gD_uA, gD_sD]) ?_
                  refine pw_if_ge r_4_readAll_111 (fun h111 => ?_) (fun h111 => ?_)
                  · skip
                    refine pw_aload r_4_readAll_123 rfl ?_
                    refine pw_callV (av := []) (st := []) (ls0 := [some (vR 4 (0))]) r_4_readAll_124 rfl rfl rfl (Nat.le_refl _) ?_
                    refine sgO (cb := cb) (rb := rb) (n := n) (b := b) (a := a2) (by first | exact hby | rfl) (hsh) (by exact hb) (by rfl) (by rfl) (by show (-1 : Int) < 0; decide) (by first | assumption | exact hnn | omega) (by first | assumption | exact haa | omega) ?_
                    refine pw_const r_4_readAll_127 ?_
                    refine pw_icmp_ne r_4_readAll_129 (fun h129 => ?_) (fun h129 => ?_)
                    · skip
                      refine pw_const r_4_readAll_136 ?_
                      refine pw_istore (ls' := [some (vR 4 (0)), some (vR cb (rb)), some (vI (n)), some (vI (g)), some (vI (0)), some (vI (i)), some (vI (s2 e)), some (vI (1))]) r_4_readAll_137 rfl rfl ?_
                      refine pw_iload r_4_readAll_139 rfl ?_
                      refine pw_if_eq r_4_readAll_141 (fun h141 => ?_) (fun h141 => absurd h141 (by decide))
                      refine pw_eqG (G' := sF (sF (sF (sF (sD G 4 (0) (3) (some (cb, rb))) 4 (0) 1 (-1)) 4 (0) 2 (ln)) 4 (0) 4 (n)) 4 (0) 5 (a2)) (by first | rfl | (simp (disch := decide) only [sF_sF, sF_srt])) ?_
                      refine pw_iinc (b := 0) (ls' := [some (vR 4 (0)), some (vR cb (rb)), some (vI (n)), some (vI (g)), some (vI (0)), some (vI ((i + 1))), some (vI (s2 e)), some (vI (1))]) r_4_readAll_154 rfl rfl (by omega) rfl ?_
                      refine pw_goto r_4_readAll_157 ?_
                      refine pw_weakL (ls' := [some (vR 4 (0)), some (vR cb (rb)), some (vI (n)), some (vI (g)), some (vI (0)), some (vI ((i + 1))), none, none]) (⟨rfl, ⟨rfl, ⟨rfl, ⟨rfl, ⟨rfl, ⟨rfl, trivial⟩⟩⟩⟩⟩⟩) ?_
                      exact ih38 ((i + 1)) (0) (g) (a2) (ln) (Ls ++ [(some s1, s2)]) (by first | exact stT_more hS (Or.inr ⟨a1, s1, s2, rfl, q1, by omega, p1⟩) (by omega) (by omega) | exact stT_stop hS (Or.inr ⟨a1, s1, s2, rfl, q1, by omega, p1⟩) (by omega)) (by first | exact Or.inl rfl | exact Or.inr rfl) (by first | assumption | omega) (by first | assumption | omega) (by have hil := hS.1; first | exact (pick_step hg).1 (by omega) | exact (pick_step hg).2.2 (by omega) (by show ¬ (s1 e ≠ 0); omega) | (by_cases q : ln < 0; exact (pick_step hg).2.2 q (by show ¬ (s1 e ≠ 0); omega); exact (pick_step hg).1 q) | (rw [hil]; exact (pick_step hg).2.1 (by omega) (by show s1 e ≠ 0; omega))) (by omega)
                    · skip
                      refine pw_const r_4_readAll_132 ?_
                      refine pw_goto r_4_readAll_133 ?_
                      refine pw_istore (ls' := [some (vR 4 (0)), some (vR cb (rb)), some (vI (n)), some (vI (g)), some (vI (1)), some (vI (i)), some (vI (s2 e)), some (vI (1))]) r_4_readAll_137 rfl rfl ?_
                      refine pw_iload r_4_readAll_139 rfl ?_
                      refine pw_if_eq r_4_readAll_141 (fun h141 => absurd h141 (by decide)) (fun h141 => ?_)
                      refine pw_aload r_4_readAll_144 rfl ?_
                      refine pw_dup r_4_readAll_145 rfl ?_
                      refine pw_getIv (v := a2) r_4_readAll_146 fs_4_5 (by decide) (by first | rfl | simp [gF_sF, gF_sA, gF_uA, gF_sD, gA_sF, gA_sA, gA_uA, gA_sD, gD_sF, gD_sA, gD_uA, gD_sD]) ?_
                      refine pw_const r_4_readAll_149 ?_
                      refine pw_iadd r_4_readAll_150 (by omega) ?_
                      refine pw_putI r_4_readAll_151 (by decide +kernel) fs_4_5 (by decide) ?_
                      refine pw_eqG (G' := sF (sF (sF (sF (sD G 4 (0) (3) (some (cb, rb))) 4 (0) 1 (-1)) 4 (0) 2 (ln)) 4 (0) 4 (n)) 4 (0) 5 ((a2 + 1))) (by first | rfl | (simp (disch := decide) only [sF_sF, sF_srt])) ?_
                      refine pw_iinc (b := 0) (ls' := [some (vR 4 (0)), some (vR cb (rb)), some (vI (n)), some (vI (g)), some (vI (1)), some (vI ((i + 1))), some (vI (s2 e)), some (vI (1))]) r_4_readAll_154 rfl rfl (by omega) rfl ?_
                      refine pw_goto r_4_readAll_157 ?_
                      refine pw_weakL (ls' := [some (vR 4 (0)), some (vR cb (rb)), some (vI (n)), some (vI (g)), some (vI (1)), some (vI ((i + 1))), none, none]) (⟨rfl, ⟨rfl, ⟨rfl, ⟨rfl, ⟨rfl, ⟨rfl, trivial⟩⟩⟩⟩⟩⟩) ?_
                      exact ih38 ((i + 1)) (1) (g) ((a2 + 1)) (ln) (Ls ++ [(some s1, s2)]) (by first | exact stT_more hS (Or.inr ⟨a1, s1, s2, rfl, q1, by omega, p1⟩) (by omega) (by omega) | exact stT_stop hS (Or.inr ⟨a1, s1, s2, rfl, q1, by omega, p1⟩) (by omega)) (by first | exact Or.inl rfl | exact Or.inr rfl) (by first | assumption | omega) (by first | assumption | omega) (by have hil := hS.1; first | exact (pick_step hg).1 (by omega) | exact (pick_step hg).2.2 (by omega) (by show ¬ (s1 e ≠ 0); omega) | (by_cases q : ln < 0; exact (pick_step hg).2.2 q (by show ¬ (s1 e ≠ 0); omega); exact (pick_step hg).1 q) | (rw [hil]; exact (pick_step hg).2.1 (by omega) (by show s1 e ≠ 0; omega))) (by omega)
                  · skip
                    refine pw_aload r_4_readAll_114 rfl ?_
                    refine pw_iload r_4_readAll_115 rfl ?_
                    refine pw_putI r_4_readAll_117 (by decide +kernel) fs_4_2 (by decide) ?_
                    refine pw_iload r_4_readAll_120 rfl ?_
                    refine pw_istore (ls' := [some (vR 4 (0)), some (vR cb (rb)), some (vI (n)), some (vI (s2 e)), some (vI (m)), some (vI (i)), some (vI (s2 e)), some (vI (1))]) r_4_readAll_122 rfl rfl ?_
                    refine pw_aload r_4_readAll_123 rfl ?_
                    refine pw_callV (av := []) (st := []) (ls0 := [some (vR 4 (0))]) r_4_readAll_124 rfl rfl rfl (Nat.le_refl _) ?_
                    refine sgO (cb := cb) (rb := rb) (n := n) (b := b) (a := a2) (by first | exact hby | rfl) (hsh) (by exact hb) (by rfl) (by rfl) (by show (-1 : Int) < 0; decide) (by first | assumption | exact hnn | omega) (by first | assumption | exact haa | omega) ?_
                    refine pw_const r_4_readAll_127 ?_
                    refine pw_icmp_ne r_4_readAll_129 (fun h129 => ?_) (fun h129 => ?_)
                    · skip
                      refine pw_const r_4_readAll_136 ?_
                      refine pw_istore (ls' := [some (vR 4 (0)), some (vR cb (rb)), some (vI (n)), some (vI (s2 e)), some (vI (0)), some (vI (i)), some (vI (s2 e)), some (vI (1))]) r_4_readAll_137 rfl rfl ?_
                      refine pw_iload r_4_readAll_139 rfl ?_
                      refine pw_if_eq r_4_readAll_141 (fun h141 => ?_) (fun h141 => absurd h141 (by decide))
                      refine pw_eqG (G' := sF (sF (sF (sF (sD G 4 (0) (3) (some (cb, rb))) 4 (0) 1 (-1)) 4 (0) 2 (i)) 4 (0) 4 (n)) 4 (0) 5 (a2)) (by first | rfl | (simp (disch := decide) only [sF_sF, sF_srt])) ?_
                      refine pw_iinc (b := 0) (ls' := [some (vR 4 (0)), some (vR cb (rb)), some (vI (n)), some (vI (s2 e)), some (vI (0)), some (vI ((i + 1))), some (vI (s2 e)), some (vI (1))]) r_4_readAll_154 rfl rfl (by omega) rfl ?_
                      refine pw_goto r_4_readAll_157 ?_
                      refine pw_weakL (ls' := [some (vR 4 (0)), some (vR cb (rb)), some (vI (n)), some (vI (s2 e)), some (vI (0)), some (vI ((i + 1))), none, none]) (⟨rfl, ⟨rfl, ⟨rfl, ⟨rfl, ⟨rfl, ⟨rfl, trivial⟩⟩⟩⟩⟩⟩) ?_
                      exact ih38 ((i + 1)) (0) (s2 e) (a2) (i) (Ls ++ [(some s1, s2)]) (by first | exact stT_more hS (Or.inr ⟨a1, s1, s2, rfl, q1, by omega, p1⟩) (by omega) (by omega) | exact stT_stop hS (Or.inr ⟨a1, s1, s2, rfl, q1, by omega, p1⟩) (by omega)) (by first | exact Or.inl rfl | exact Or.inr rfl) (by first | assumption | omega) (by first | assumption | omega) (by have hil := hS.1; first | exact (pick_step hg).1 (by omega) | exact (pick_step hg).2.2 (by omega) (by show ¬ (s1 e ≠ 0); omega) | (by_cases q : ln < 0; exact (pick_step hg).2.2 q (by show ¬ (s1 e ≠ 0); omega); exact (pick_step hg).1 q) | (rw [hil]; exact (pick_step hg).2.1 (by omega) (by show s1 e ≠ 0; omega))) (by omega)
                    · skip
                      refine pw_const r_4_readAll_132 ?_
                      refine pw_goto r_4_readAll_133 ?_
                      refine pw_istore (ls' := [some (vR 4 (0)), some (vR cb (rb)), some (vI (n)), some (vI (s2 e)), some (vI (1)), some (vI (i)), some (vI (s2 e)), some (vI (1))]) r_4_readAll_137 rfl rfl ?_
                      refine pw_iload r_4_readAll_139 rfl ?_
                      refine pw_if_eq r_4_readAll_141 (fun h141 => absurd h141 (by decide)) (fun h141 => ?_)
                      refine pw_aload r_4_readAll_144 rfl ?_
                      refine pw_dup r_4_readAll_145 rfl ?_
                      refine pw_getIv (v := a2) r_4_readAll_146 fs_4_5 (by decide) (by first | rfl | simp [gF_sF, gF_sA, gF_uA, gF_sD, gA_sF, gA_sA, gA_uA, gA_sD, gD_sF, gD_sA, gD_uA, gD_sD]) ?_
                      refine pw_const r_4_readAll_149 ?_
                      refine pw_iadd r_4_readAll_150 (by omega) ?_
                      refine pw_putI r_4_readAll_151 (by decide +kernel) fs_4_5 (by decide) ?_
                      refine pw_eqG (G' := sF (sF (sF (sF (sD G 4 (0) (3) (some (cb, rb))) 4 (0) 1 (-1)) 4 (0) 2 (i)) 4 (0) 4 (n)) 4 (0) 5 ((a2 + 1))) (by first | rfl | (simp (disch := decide) only [sF_sF, sF_srt])) ?_
                      refine pw_iinc (b := 0) (ls' := [some (vR 4 (0)), some (vR cb (rb)), some (vI (n)), some (vI (s2 e)), some (vI (1)), some (vI ((i + 1))), some (vI (s2 e)), some (vI (1))]) r_4_readAll_154 rfl rfl (by omega) rfl ?_
                      refine pw_goto r_4_readAll_157 ?_
                      refine pw_weakL (ls' := [some (vR 4 (0)), some (vR cb (rb)), some (vI (n)), some (vI (s2 e)), some (vI (1)), some (vI ((i + 1))), none, none]) (⟨rfl, ⟨rfl, ⟨rfl, ⟨rfl, ⟨rfl, ⟨rfl, trivial⟩⟩⟩⟩⟩⟩) ?_
                      exact ih38 ((i + 1)) (1) (s2 e) ((a2 + 1)) (i) (Ls ++ [(some s1, s2)]) (by first | exact stT_more hS (Or.inr ⟨a1, s1, s2, rfl, q1, by omega, p1⟩) (by omega) (by omega) | exact stT_stop hS (Or.inr ⟨a1, s1, s2, rfl, q1, by omega, p1⟩) (by omega)) (by first | exact Or.inl rfl | exact Or.inr rfl) (by first | assumption | omega) (by first | assumption | omega) (by have hil := hS.1; first | exact (pick_step hg).1 (by omega) | exact (pick_step hg).2.2 (by omega) (by show ¬ (s1 e ≠ 0); omega) | (by_cases q : ln < 0; exact (pick_step hg).2.2 q (by show ¬ (s1 e ≠ 0); omega); exact (pick_step hg).1 q) | (rw [hil]; exact (pick_step hg).2.1 (by omega) (by show s1 e ≠ 0; omega))) (by omega)
  refine pw_eqG (G' := sF (sF (sF (sF (sD G 4 (0) (3) (some (cb, rb))) 4 (0) 1 (-1)) 4 (0) 2 ((-1))) 4 (0) 4 (n)) 4 (0) 5 (0)) (by first | rfl | (simp (disch := decide) only [sF_sF, sF_srt])) ?_
  exact L38 _ (0) (1) (0) (0) ((-1)) ([]) (stT_0) (Or.inr rfl) (by first | assumption | omega) (by first | assumption | omega) (rfl) (Nat.lt_succ_self _)
set_option maxRecDepth 10000 in
theorem sp_X12_workOut {l : Launch} {w : Wo} {d : Nat} {G : PH} {P : Option PV → PH → Prop} {bs n : Int} {b e : Int → Int} (hb : ∀ j, 0 ≤ j → j < n → b j = if bs < 0 then gA G 228 0 j else gA G 229 0 (bs + j)) (hba : bs ≤ 3040) (hve : ∀ j, 0 ≤ j → j < 9 → (gA G 235 0 (j)) = e j) (hnn : 0 ≤ n ∧ n ≤ 160) (h1 : ∀ f v x l, EvT b n 0 (.inl f) → 0 ≤ f → f ≤ n → P (some (vI v)) (sF (sF (sF (sF (sF (sF G 12 0 44 (bs)) 12 0 45 (f)) 12 0 46 (n)) 12 0 47 (f)) 12 0 48 (x)) 12 0 50 (l))) (h2 : ∀ L, EvT b n 0 (.inr L) → P (some (vI ((pick e L 0).2))) (sF (sF (sF (sF (sF (sF G 12 0 44 (bs)) 12 0 45 (n)) 12 0 46 (n)) 12 0 47 (-1)) 12 0 48 (0)) 12 0 50 ((pick e L 0).1))) : PW l w M_X12_workOut (d + 95) 0 [some (vR 12 (0)), some (vI (bs)), some (vI (n)), none, none, none, none, none] [] G P := by
  refine pw_aload r_12_workOut_0 rfl ?_
  refine pw_iload r_12_workOut_1 rfl ?_
  refine pw_putI r_12_workOut_2 (by decide +kernel) fs_12_44 (by decide) ?_
  refine pw_aload r_12_workOut_5 rfl ?_
  refine pw_const r_12_workOut_6 ?_
  refine pw_putI r_12_workOut_7 (by decide +kernel) fs_12_45 (by decide) ?_
  refine pw_aload r_12_workOut_10 rfl ?_
  refine pw_iload r_12_workOut_11 rfl ?_
  refine pw_putI r_12_workOut_12 (by decide +kernel) fs_12_46 (by decide) ?_
  refine pw_aload r_12_workOut_15 rfl ?_
  refine pw_const r_12_workOut_16 ?_
  refine pw_putI r_12_workOut_17 (by decide +kernel) fs_12_47 (by decide) ?_
  refine pw_aload r_12_workOut_20 rfl ?_
  refine pw_const r_12_workOut_21 ?_
  refine pw_putI r_12_workOut_22 (by decide +kernel) fs_12_48 (by decide) ?_
  refine pw_aload r_12_workOut_25 rfl ?_
  refine pw_const r_12_workOut_26 ?_
  refine pw_putI r_12_workOut_27 (by decide +kernel) fs_12_50 (by decide) ?_
  refine pw_const r_12_workOut_30 ?_
  refine pw_istore (ls' := [some (vR 12 (0)), some (vI (bs)), some (vI (n)), some (vI (0)), none, none, none, none]) r_12_workOut_31 rfl rfl ?_
  refine pw_const r_12_workOut_32 ?_
  refine pw_istore (ls' := [some (vR 12 (0)), some (vI (bs)), some (vI (n)), some (vI (0)), some (vI (0)), none, none, none]) r_12_workOut_33 rfl rfl ?_
  refine pw_const r_12_workOut_35 ?_
  refine pw_istore (ls' := [some (vR 12 (0)), some (vI (bs)), some (vI (n)), some (vI (0)), some (vI (0)), some (vI (1)), none, none]) r_12_workOut_36 rfl rfl ?_
  have L38 : ∀ (nF : Nat) (i m g p ln : Int) (Ls : List Ln), (hS : stT b n i m p Ls) → (hm : m = 0 ∨ m = 1) → (hp : 0 ≤ p ∧ p ≤ n) → (hi : 0 ≤ i ∧ i ≤ n + 1) → (hg : pick e Ls 0 = (ln, g)) → (n + 2 - i).toNat < nF → PW l w M_X12_workOut (d + 95) 38 [some (vR 12 (0)), some (vI (bs)), some (vI (n)), some (vI (g)), some (vI (i)), some (vI (m)), none, none] [] (sF (sF (sF (sF (sF (sF G 12 (0) 44 (bs)) 12 (0) 45 (p)) 12 (0) 46 (n)) 12 (0) 47 (-1)) 12 (0) 48 (0)) 12 (0) 50 (ln)) P := by
    intro nF
    induction nF with
    | zero => intro _ _ _ _ _ _ _ _ _ _ _ hM; exact absurd hM (Nat.not_lt_zero _)
    | succ nF ih38 =>
      intro i m g p ln Ls hS hm hp hi hg hM38
      have hip := stT_ip hS
      refine pw_iload r_12_workOut_38 rfl ?_
      refine pw_if_eq r_12_workOut_40 (fun h40 => ?_) (fun h40 => ?_)
      · skip
        refine pw_aload r_12_workOut_121 rfl ?_
        refine pw_getIv (v := -1) r_12_workOut_122 fs_12_47 (by decide) (by first | rfl | simp [gF_sF, gF_sA, gF_uA, gF_sD, gA_sF, gA_sA, gA_uA, gA_sD, gD_sF, gD_sA, gD_uA, gD_sD]) ?_
        refine pw_if_ge r_12_workOut_125 (fun h125 => absurd h125 (by decide)) (fun h125 => ?_)
        refine pw_aload r_12_workOut_128 rfl ?_
        refine pw_getIv (v := p) r_12_workOut_129 fs_12_45 (by decide) (by first | rfl | simp [gF_sF, gF_sA, gF_uA, gF_sD, gA_sF, gA_sA, gA_uA, gA_sD, gD_sF, gD_sA, gD_uA, gD_sD]) ?_
        refine pw_aload r_12_workOut_132 rfl ?_
        refine pw_getIv (v := n) r_12_workOut_133 fs_12_46 (by decide) (by first | rfl | simp [gF_sF, gF_sA, gF_uA, gF_sD, gA_sF, gA_sA, gA_uA, gA_sD, gD_sF, gD_sA, gD_uA, gD_sD]) ?_
        refine pw_icmp_ge r_12_workOut_136 (fun h136 => ?_) (fun h136 => ?_)
        · skip
          refine pw_iload r_12_workOut_144 rfl ?_
          refine pw_iret r_12_workOut_145 rfl (Nat.le_refl _) ⟨rfl, ?_⟩
          first | (have hb9 : EvT b n 0 (.inl p) := stT_bad hS (by omega) (by omega); exact h1 p _ _ _ hb9 (by omega) (by omega)) | (have hk9 : EvT b n 0 (.inr Ls) := stT_ok hS (by omega) (by omega); have h9 := h2 Ls hk9; rw [hg] at h9; rw [show p = n by omega]; exact h9)
        · skip
          refine pw_aload r_12_workOut_139 rfl ?_
          refine pw_callV (av := []) (st := []) (ls0 := [some (vR 12 (0))]) r_12_workOut_140 rfl rfl rfl (Nat.le_refl _) ?_
          refine wrO (a := p) (by rfl) (by show (-1 : Int) < 0; decide) ?_
          refine pw_eqG (G' := sF (sF (sF (sF (sF (sF G 12 (0) 44 (bs)) 12 (0) 45 (p)) 12 (0) 46 (n)) 12 (0) 47 (p)) 12 (0) 48 (0)) 12 (0) 50 (ln)) (by first | rfl | (simp (disch := decide) only [sF_sF, sF_srt])) ?_
          refine pw_iret r_12_workOut_143 rfl (Nat.le_refl _) ⟨rfl, ?_⟩
          first | (have hb9 : EvT b n 0 (.inl p) := stT_bad hS (by omega) (by omega); exact h1 p _ _ _ hb9 (by omega) (by omega)) | (have hk9 : EvT b n 0 (.inr Ls) := stT_ok hS (by omega) (by omega); have h9 := h2 Ls hk9; rw [hg] at h9; rw [show p = n by omega]; exact h9)
      · skip
        have hm1 : m = 1 := by omega
        rw [hm1] at hS
        refine pw_aload r_12_workOut_43 rfl ?_
        refine pw_callV (av := []) (st := []) (ls0 := [some (vR 12 (0)), none, none]) r_12_workOut_44 rfl rfl rfl (Nat.le_refl _) ?_
        refine sp_X12_either (89) (d := _) (o := 0) (n := n) (a := p) (bs := bs) (b := b) (e := e) (by omega) (by exact hb) (by rfl) (by first | assumption | exact hba | omega) (by rfl) (by first | assumption | exact hnn | omega) (by rfl) (by first | assumption | exact haa | omega) (by show (-1 : Int) < 0; decide) (by first | assumption | exact ho | omega) (by rfl) (by exact hve) ?_ ?_
        · skip
          intro f1 v1 x1 q1 q2 q3 q4 q5
          have hF : EvT b n 0 (.inl f1) := stT_f hS (EvT_f1 q1)
          refine pw_istore (ls' := [some (vR 12 (0)), some (vI (bs)), some (vI (n)), some (vI (g)), some (vI (i)), some (vI (m)), some (vI (v1)), none]) r_12_workOut_47 rfl rfl ?_
          refine pw_const r_12_workOut_49 ?_
          refine pw_istore (ls' := [some (vR 12 (0)), some (vI (bs)), some (vI (n)), some (vI (g)), some (vI (i)), some (vI (m)), some (vI (v1)), some (vI (1))]) r_12_workOut_50 rfl rfl ?_
          refine pw_aload r_12_workOut_52 rfl ?_
          refine pw_const r_12_workOut_53 ?_
          refine pw_callV (av := [vI (63)]) (st := []) (ls0 := [some (vR 12 (0)), some (vI (63))]) r_12_workOut_55 rfl rfl rfl (Nat.le_refl _) ?_
          refine tkF (by first | (show 0 ≤ f1; omega) | (simp (disch := decide) only [gF_sF]; first | done | omega | (simp; first | done | omega))) ?_
          refine pw_if_eq r_12_workOut_58 (fun h58 => ?_) (fun h58 => absurd h58 (by decide))
          refine pw_aload r_12_workOut_79 rfl ?_
          refine pw_getIv (v := f1) r_12_workOut_80 fs_12_47 (by decide) (by first | rfl | simp [gF_sF, gF_sA, gF_uA, gF_sD, gA_sF, gA_sA, gA_uA, gA_sD, gD_sF, gD_sA, gD_uA, gD_sD]) ?_
          refine pw_if_ge r_12_workOut_83 (fun h83 => ?_) (fun h83 => absurd h83 (by omega))
          refine pw_eqG (G' := sF (sF (sF (sF (sF (sF G 12 (0) 44 (bs)) 12 (0) 45 (f1)) 12 (0) 46 (n)) 12 (0) 47 (f1)) 12 (0) 48 (x1)) 12 (0) 50 (ln)) (by first | rfl | (simp (disch := decide) only [sF_sF, sF_srt])) ?_
          refine pw_iinc (b := 0) (ls' := [some (vR 12 (0)), some (vI (bs)), some (vI (n)), some (vI (g)), some (vI ((i + 1))), some (vI (m)), some (vI (v1)), some (vI (1))]) r_12_workOut_107 rfl rfl (by omega) rfl ?_
          refine pw_aload r_12_workOut_110 rfl ?_
          refine pw_const r_12_workOut_111 ?_
          refine pw_callV (av := [vI (59)]) (st := []) (ls0 := [some (vR 12 (0)), some (vI (59))]) r_12_workOut_113 rfl rfl rfl (Nat.le_refl _) ?_
          refine tkF (by first | (show 0 ≤ f1; omega) | (simp (disch := decide) only [gF_sF]; first | done | omega | (simp; first | done | omega))) ?_
          refine pw_istore (ls' := [some (vR 12 (0)), some (vI (bs)), some (vI (n)), some (vI (g)), some (vI ((i + 1))), some (vI (0)), some (vI (v1)), some (vI (1))]) r_12_workOut_116 rfl rfl ?_
          refine pw_goto r_12_workOut_118 ?_
          refine pw_iload r_12_workOut_38 rfl ?_
          refine pw_if_eq r_12_workOut_40 (fun h40 => ?_) (fun h40 => absurd h40 (by decide))
          refine pw_aload r_12_workOut_121 rfl ?_
          refine pw_getIv (v := f1) r_12_workOut_122 fs_12_47 (by decide) (by first | rfl | simp [gF_sF, gF_sA, gF_uA, gF_sD, gA_sF, gA_sA, gA_uA, gA_sD, gD_sF, gD_sA, gD_uA, gD_sD]) ?_
          refine pw_if_ge r_12_workOut_125 (fun h125 => ?_) (fun h125 => absurd h125 (by omega))
          refine pw_iload r_12_workOut_144 rfl ?_
          refine pw_iret r_12_workOut_145 rfl (Nat.le_refl _) ⟨rfl, ?_⟩
          exact h1 f1 _ _ _ hF (by omega) (by omega)
        · skip
          intro a1 s1 q1 q2 q3
          have hl1 := byt_sgn b n a1
          refine pw_istore (ls' := [some (vR 12 (0)), some (vI (bs)), some (vI (n)), some (vI (g)), some (vI (i)), some (vI (m)), some (vI (s1 e)), none]) r_12_workOut_47 rfl rfl ?_
          refine pw_const r_12_workOut_49 ?_
          refine pw_istore (ls' := [some (vR 12 (0)), some (vI (bs)), some (vI (n)), some (vI (g)), some (vI (i)), some (vI (m)), some (vI (s1 e)), some (vI (1))]) r_12_workOut_50 rfl rfl ?_
          refine pw_aload r_12_workOut_52 rfl ?_
          refine pw_const r_12_workOut_53 ?_
          refine pw_callV (av := [vI (63)]) (st := []) (ls0 := [some (vR 12 (0)), some (vI (63))]) r_12_workOut_55 rfl rfl rfl (Nat.le_refl _) ?_
          refine tkO (n := n) (a := a1) (bs := bs) (b := b) (by exact hb) (by rfl) (by first | assumption | exact hba | omega) (by rfl) (by first | assumption | exact hnn | omega) (by rfl) (by first | assumption | exact haa | omega) (by show (-1 : Int) < 0; decide) ?_ ?_
          · skip
            intro q9
            refine pw_if_eq r_12_workOut_58 (fun h58 => ?_) (fun h58 => absurd h58 (by decide))
            refine pw_aload r_12_workOut_79 rfl ?_
            refine pw_getIv (v := -1) r_12_workOut_80 fs_12_47 (by decide) (by first | rfl | simp [gF_sF, gF_sA, gF_uA, gF_sD, gA_sF, gA_sA, gA_uA, gA_sD, gD_sF, gD_sA, gD_uA, gD_sD]) ?_
            refine pw_if_ge r_12_workOut_83 (fun h83 => absurd h83 (by decide)) (fun h83 => ?_)
            refine pw_iload r_12_workOut_86 rfl ?_
            refine pw_if_eq r_12_workOut_88 (fun h88 => absurd h88 (by decide)) (fun h88 => ?_)
            refine pw_aload r_12_workOut_91 rfl ?_
            refine pw_getIv (v := ln) r_12_workOut_92 fs_12_50 (by decide) (by first | rfl | simp [gF_sF, gF_sA, gF_uA, gF_sD, gA_sF, gA_sA, gA_uA, gA_sD, gD_sF, gD_sA, gD_uA, gD_sD]) ?_
            refine pw_if_ge r_12_workOut_95 (fun h95 => ?_) (fun h95 => ?_)
            · skip
              refine pw_eqG (G' := sF (sF (sF (sF (sF (sF G 12 (0) 44 (bs)) 12 (0) 45 (a1)) 12 (0) 46 (n)) 12 (0) 47 (-1)) 12 (0) 48 (0)) 12 (0) 50 (ln)) (by first | rfl | (simp (disch := decide) only [sF_sF, sF_srt])) ?_
              refine pw_iinc (b := 0) (ls' := [some (vR 12 (0)), some (vI (bs)), some (vI (n)), some (vI (g)), some (vI ((i + 1))), some (vI (m)), some (vI (s1 e)), some (vI (1))]) r_12_workOut_107 rfl rfl (by omega) rfl ?_
              refine pw_aload r_12_workOut_110 rfl ?_
              refine pw_const r_12_workOut_111 ?_
              refine pw_callV (av := [vI (59)]) (st := []) (ls0 := [some (vR 12 (0)), some (vI (59))]) r_12_workOut_113 rfl rfl rfl (Nat.le_refl _) ?_
              refine tkO (n := n) (a := a1) (bs := bs) (b := b) (by exact hb) (by rfl) (by first | assumption | exact hba | omega) (by rfl) (by first | assumption | exact hnn | omega) (by rfl) (by first | assumption | exact haa | omega) (by show (-1 : Int) < 0; decide) ?_ ?_
              · skip
                intro q9
                refine pw_istore (ls' := [some (vR 12 (0)), some (vI (bs)), some (vI (n)), some (vI (g)), some (vI ((i + 1))), some (vI (0)), some (vI (s1 e)), some (vI (1))]) r_12_workOut_116 rfl rfl ?_
                refine pw_goto r_12_workOut_118 ?_
                refine pw_weakL (ls' := [some (vR 12 (0)), some (vI (bs)), some (vI (n)), some (vI (g)), some (vI ((i + 1))), some (vI (0)), none, none]) (⟨rfl, ⟨rfl, ⟨rfl, ⟨rfl, ⟨rfl, ⟨rfl, trivial⟩⟩⟩⟩⟩⟩) ?_
                exact ih38 ((i + 1)) (0) (g) (a1) (ln) (Ls ++ [(none, s1)]) (by first | exact stT_more hS (Or.inl ⟨s1, rfl, q1, by omega⟩) (by omega) (by omega) | exact stT_stop hS (Or.inl ⟨s1, rfl, q1, by omega⟩) (by omega)) (by first | exact Or.inl rfl | exact Or.inr rfl) (by first | assumption | omega) (by first | assumption | omega) (by have hil := hS.1; first | exact (pick_step hg).1 (by omega) | exact (pick_step hg).2.2 (by omega) (by show ¬ True; omega) | (by_cases q : ln < 0; exact (pick_step hg).2.2 q (by show ¬ True; omega); exact (pick_step hg).1 q) | (rw [hil]; exact (pick_step hg).2.1 (by omega) (by exact trivial))) (by omega)
              · skip
                intro q9
                refine pw_istore (ls' := [some (vR 12 (0)), some (vI (bs)), some (vI (n)), some (vI (g)), some (vI ((i + 1))), some (vI (1)), some (vI (s1 e)), some (vI (1))]) r_12_workOut_116 rfl rfl ?_
                refine pw_goto r_12_workOut_118 ?_
                refine pw_weakL (ls' := [some (vR 12 (0)), some (vI (bs)), some (vI (n)), some (vI (g)), some (vI ((i + 1))), some (vI (1)), none, none]) (⟨rfl, ⟨rfl, ⟨rfl, ⟨rfl, ⟨rfl, ⟨rfl, trivial⟩⟩⟩⟩⟩⟩) ?_
                refine pw_eqG (G' := sF (sF (sF (sF (sF (sF G 12 (0) 44 (bs)) 12 (0) 45 (a1 + 1)) 12 (0) 46 (n)) 12 (0) 47 (-1)) 12 (0) 48 (0)) 12 (0) 50 (ln)) (by first | rfl | (simp (disch := decide) only [sF_sF, sF_srt])) ?_
                exact ih38 ((i + 1)) (1) (g) (a1 + 1) (ln) (Ls ++ [(none, s1)]) (by first | exact stT_more hS (Or.inl ⟨s1, rfl, q1, by omega⟩) (by omega) (by omega) | exact stT_stop hS (Or.inl ⟨s1, rfl, q1, by omega⟩) (by omega)) (by first | exact Or.inl rfl | exact Or.inr rfl) (by first | assumption | omega) (by first | assumption | omega) (by have hil := hS.1; first | exact (pick_step hg).1 (by omega) | exact (pick_step hg).2.2 (by omega) (by show ¬ True; omega) | (by_cases q : ln < 0; exact (pick_step hg).2.2 q (by show ¬ True; omega); exact (pick_step hg).1 q) | (rw [hil]; exact (pick_step hg).2.1 (by omega) (by exact trivial))) (by omega)
            · skip
              refine pw_aload r_12_workOut_98 rfl ?_
              refine pw_iload r_12_workOut_99 rfl ?_
              refine pw_putI r_12_workOut_101 (by decide +kernel) fs_12_50 (by decide) ?_
              refine pw_iload r_12_workOut_104 rfl ?_
              refine pw_istore (ls' := [some (vR 12 (0)), some (vI (bs)), some (vI (n)), some (vI (s1 e)), some (vI (i)), some (vI (m)), some (vI (s1 e)), some (vI (1))]) r_12_workOut_106 rfl rfl ?_
              refine pw_eqG (G' := sF (sF (sF (sF (sF (sF G 12 (0) 44 (bs)) 12 (0) 45 (a1)) 12 (0) 46 (n)) 12 (0) 47 (-1)) 12 (0) 48 (0)) 12 (0) 50 (i)) (by first | rfl | (simp (disch := decide) only [sF_sF, sF_srt])) ?_
              refine pw_iinc (b := 0) (ls' := [some (vR 12 (0)), some (vI (bs)), some (vI (n)), some (vI (s1 e)), some (vI ((i + 1))), some (vI (m)), some (vI (s1 e)), some (vI (1))]) r_12_workOut_107 rfl rfl (by omega) rfl ?_
              refine pw_aload r_12_workOut_110 rfl ?_
              refine pw_const r_12_workOut_111 ?_
              refine pw_callV (av := [vI (59)]) (st := []) (ls0 := [some (vR 12 (0)), some (vI (59))]) r_12_workOut_113 rfl rfl rfl (Nat.le_refl _) ?_
              refine tkO (n := n) (a := a1) (bs := bs) (b := b) (by exact hb) (by rfl) (by first | assumption | exact hba | omega) (by rfl) (by first | assumption | exact hnn | omega) (by rfl) (by first | assumption | exact haa | omega) (by show (-1 : Int) < 0; decide) ?_ ?_
              · skip
                intro q9
                refine pw_istore (ls' := [some (vR 12 (0)), some (vI (bs)), some (vI (n)), some (vI (s1 e)), some (vI ((i + 1))), some (vI (0)), some (vI (s1 e)), some (vI (1))]) r_12_workOut_116 rfl rfl ?_
                refine pw_goto r_12_workOut_118 ?_
                refine pw_weakL (ls' := [some (vR 12 (0)), some (vI (bs)), some (vI (n)), some (vI (s1 e)), some (vI ((i + 1))), some (vI (0)), none, none]) (⟨rfl, ⟨rfl, ⟨rfl, ⟨rfl, ⟨rfl, ⟨rfl, trivial⟩⟩⟩⟩⟩⟩) ?_
                exact ih38 ((i + 1)) (0) (s1 e) (a1) (i) (Ls ++ [(none, s1)]) (by first | exact stT_more hS (Or.inl ⟨s1, rfl, q1, by omega⟩) (by omega) (by omega) | exact stT_stop hS (Or.inl ⟨s1, rfl, q1, by omega⟩) (by omega)) (by first | exact Or.inl rfl | exact Or.inr rfl) (by first | assumption | omega) (by first | assumption | omega) (by have hil := hS.1; first | exact (pick_step hg).1 (by omega) | exact (pick_step hg).2.2 (by omega) (by show ¬ True; omega) | (by_cases q : ln < 0; exact (pick_step hg).2.2 q (by show ¬ True; omega); exact (pick_step hg).1 q) | (rw [hil]; exact (pick_step hg).2.1 (by omega) (by exact trivial))) (by omega)
              · skip
                intro q9
                refine pw_istore (ls' := [some (vR 12 (0)), some (vI (bs)), some (vI (n)), some (vI (s1 e)), some (vI ((i + 1))), some (vI (1)), some (vI (s1 e)), some (vI (1))]) r_12_workOut_116 rfl rfl ?_
                refine pw_goto r_12_workOut_118 ?_
                refine pw_weakL (ls' := [some (vR 12 (0)), some (vI (bs)), some (vI (n)), some (vI (s1 e)), some (vI ((i + 1))), some (vI (1)), none, none]) (⟨rfl, ⟨rfl, ⟨rfl, ⟨rfl, ⟨rfl, ⟨rfl, trivial⟩⟩⟩⟩⟩⟩) ?_
                refine pw_eqG (G' := sF (sF (sF (sF (sF (sF G 12 (0) 44 (bs)) 12 (0) 45 (a1 + 1)) 12 (0) 46 (n)) 12 (0) 47 (-1)) 12 (0) 48 (0)) 12 (0) 50 (i)) (by first | rfl | (simp (disch := decide) only [sF_sF, sF_srt])) ?_
                exact ih38 ((i + 1)) (1) (s1 e) (a1 + 1) (i) (Ls ++ [(none, s1)]) (by first | exact stT_more hS (Or.inl ⟨s1, rfl, q1, by omega⟩) (by omega) (by omega) | exact stT_stop hS (Or.inl ⟨s1, rfl, q1, by omega⟩) (by omega)) (by first | exact Or.inl rfl | exact Or.inr rfl) (by first | assumption | omega) (by first | assumption | omega) (by have hil := hS.1; first | exact (pick_step hg).1 (by omega) | exact (pick_step hg).2.2 (by omega) (by show ¬ True; omega) | (by_cases q : ln < 0; exact (pick_step hg).2.2 q (by show ¬ True; omega); exact (pick_step hg).1 q) | (rw [hil]; exact (pick_step hg).2.1 (by omega) (by exact trivial))) (by omega)
          · skip
            intro q9
            refine pw_if_eq r_12_workOut_58 (fun h58 => absurd h58 (by decide)) (fun h58 => ?_)
            refine pw_iload r_12_workOut_61 rfl ?_
            refine pw_if_eq r_12_workOut_63 (fun h63 => ?_) (fun h63 => ?_)
            · skip
              refine pw_const r_12_workOut_70 ?_
              refine pw_istore (ls' := [some (vR 12 (0)), some (vI (bs)), some (vI (n)), some (vI (g)), some (vI (i)), some (vI (m)), some (vI (s1 e)), some (vI (0))]) r_12_workOut_71 rfl rfl ?_
              refine pw_aload r_12_workOut_73 rfl ?_
              refine pw_callV (av := []) (st := []) (ls0 := [some (vR 12 (0)), none, none]) r_12_workOut_74 rfl rfl rfl (Nat.le_refl _) ?_
              refine sp_X12_either (89) (d := _) (o := 0) (n := n) (a := (a1 + 1)) (bs := bs) (b := b) (e := e) (by omega) (by exact hb) (by rfl) (by first | assumption | exact hba | omega) (by rfl) (by first | assumption | exact hnn | omega) (by rfl) (by first | assumption | exact haa | omega) (by show (-1 : Int) < 0; decide) (by first | assumption | exact ho | omega) (by rfl) (by exact hve) ?_ ?_
              · skip
                intro f1 v1 x1 p1 p2 p3 p4 p5
                have hF : EvT b n 0 (.inl f1) := stT_f hS (EvT_f2 q1 (by omega) p1)
                refine pw_istore (ls' := [some (vR 12 (0)), some (vI (bs)), some (vI (n)), some (vI (g)), some (vI (i)), some (vI (m)), some (vI (v1)), some (vI (0))]) r_12_workOut_77 rfl rfl ?_
                refine pw_aload r_12_workOut_79 rfl ?_
                refine pw_getIv (v := f1) r_12_workOut_80 fs_12_47 (by decide) (by first | rfl | simp [gF_sF, gF_sA, gF_uA, gF_sD, gA_sF, gA_sA, gA_uA, gA_sD, gD_sF, gD_sA, gD_uA, gD_sD]) ?_
                refine pw_if_ge r_12_workOut_83 (fun h83 => ?_) (fun h83 => absurd h83 (by omega))
                refine pw_eqG (G' := sF (sF (sF (sF (sF (sF G 12 (0) 44 (bs)) 12 (0) 45 (f1)) 12 (0) 46 (n)) 12 (0) 47 (f1)) 12 (0) 48 (x1)) 12 (0) 50 (ln)) (by first | rfl | (simp (disch := decide) only [sF_sF, sF_srt])) ?_
                refine pw_iinc (b := 0) (ls' := [some (vR 12 (0)), some (vI (bs)), some (vI (n)), some (vI (g)), some (vI ((i + 1))), some (vI (m)), some (vI (v1)), some (vI (0))]) r_12_workOut_107 rfl rfl (by omega) rfl ?_
                refine pw_aload r_12_workOut_110 rfl ?_
                refine pw_const r_12_workOut_111 ?_
                refine pw_callV (av := [vI (59)]) (st := []) (ls0 := [some (vR 12 (0)), some (vI (59))]) r_12_workOut_113 rfl rfl rfl (Nat.le_refl _) ?_
                refine tkF (by first | (show 0 ≤ f1; omega) | (simp (disch := decide) only [gF_sF]; first | done | omega | (simp; first | done | omega))) ?_
                refine pw_istore (ls' := [some (vR 12 (0)), some (vI (bs)), some (vI (n)), some (vI (g)), some (vI ((i + 1))), some (vI (0)), some (vI (v1)), some (vI (0))]) r_12_workOut_116 rfl rfl ?_
                refine pw_goto r_12_workOut_118 ?_
                refine pw_iload r_12_workOut_38 rfl ?_
                refine pw_if_eq r_12_workOut_40 (fun h40 => ?_) (fun h40 => absurd h40 (by decide))
                refine pw_aload r_12_workOut_121 rfl ?_
                refine pw_getIv (v := f1) r_12_workOut_122 fs_12_47 (by decide) (by first | rfl | simp [gF_sF, gF_sA, gF_uA, gF_sD, gA_sF, gA_sA, gA_uA, gA_sD, gD_sF, gD_sA, gD_uA, gD_sD]) ?_
                refine pw_if_ge r_12_workOut_125 (fun h125 => ?_) (fun h125 => absurd h125 (by omega))
                refine pw_iload r_12_workOut_144 rfl ?_
                refine pw_iret r_12_workOut_145 rfl (Nat.le_refl _) ⟨rfl, ?_⟩
                exact h1 f1 _ _ _ hF (by omega) (by omega)
              · skip
                intro a2 s2 p1 p2 p3
                have hl2 := byt_sgn b n a2
                refine pw_istore (ls' := [some (vR 12 (0)), some (vI (bs)), some (vI (n)), some (vI (g)), some (vI (i)), some (vI (m)), some (vI (s2 e)), some (vI (0))]) r_12_workOut_77 rfl rfl ?_
                refine pw_aload r_12_workOut_79 rfl ?_
                refine pw_getIv (v := -1) r_12_workOut_80 fs_12_47 (by decide) (by first | rfl | simp [gF_sF, gF_sA, gF_uA, gF_sD, gA_sF, gA_sA, gA_uA, gA_sD, gD_sF, gD_sA, gD_uA, gD_sD]) ?_
                refine pw_if_ge r_12_workOut_83 (fun h83 => absurd h83 (by decide)) (fun h83 => ?_)
                refine pw_iload r_12_workOut_86 rfl ?_
                refine pw_if_eq r_12_workOut_88 (fun h88 => ?_) (fun h88 => absurd h88 (by decide))
                refine pw_eqG (G' := sF (sF (sF (sF (sF (sF G 12 (0) 44 (bs)) 12 (0) 45 (a2)) 12 (0) 46 (n)) 12 (0) 47 (-1)) 12 (0) 48 (0)) 12 (0) 50 (ln)) (by first | rfl | (simp (disch := decide) only [sF_sF, sF_srt])) ?_
                refine pw_iinc (b := 0) (ls' := [some (vR 12 (0)), some (vI (bs)), some (vI (n)), some (vI (g)), some (vI ((i + 1))), some (vI (m)), some (vI (s2 e)), some (vI (0))]) r_12_workOut_107 rfl rfl (by omega) rfl ?_
                refine pw_aload r_12_workOut_110 rfl ?_
                refine pw_const r_12_workOut_111 ?_
                refine pw_callV (av := [vI (59)]) (st := []) (ls0 := [some (vR 12 (0)), some (vI (59))]) r_12_workOut_113 rfl rfl rfl (Nat.le_refl _) ?_
                refine tkO (n := n) (a := a2) (bs := bs) (b := b) (by exact hb) (by rfl) (by first | assumption | exact hba | omega) (by rfl) (by first | assumption | exact hnn | omega) (by rfl) (by first | assumption | exact haa | omega) (by show (-1 : Int) < 0; decide) ?_ ?_
                · skip
                  intro q9
                  refine pw_istore (ls' := [some (vR 12 (0)), some (vI (bs)), some (vI (n)), some (vI (g)), some (vI ((i + 1))), some (vI (0)), some (vI (s2 e)), some (vI (0))]) r_12_workOut_116 rfl rfl ?_
                  refine pw_goto r_12_workOut_118 ?_
                  refine pw_weakL (ls' := [some (vR 12 (0)), some (vI (bs)), some (vI (n)), some (vI (g)), some (vI ((i + 1))), some (vI (0)), none, none]) (⟨rfl, ⟨rfl, ⟨rfl, ⟨rfl, ⟨rfl, ⟨rfl, trivial⟩⟩⟩⟩⟩⟩) ?_
                  exact ih38 ((i + 1)) (0) (g) (a2) (ln) (Ls ++ [(some s1, s2)]) (by first | exact stT_more hS (Or.inr ⟨a1, s1, s2, rfl, q1, by omega, p1⟩) (by omega) (by omega) | exact stT_stop hS (Or.inr ⟨a1, s1, s2, rfl, q1, by omega, p1⟩) (by omega)) (by first | exact Or.inl rfl | exact Or.inr rfl) (by first | assumption | omega) (by first | assumption | omega) (by have hil := hS.1; first | exact (pick_step hg).1 (by omega) | exact (pick_step hg).2.2 (by omega) (by show ¬ (s1 e ≠ 0); omega) | (by_cases q : ln < 0; exact (pick_step hg).2.2 q (by show ¬ (s1 e ≠ 0); omega); exact (pick_step hg).1 q) | (rw [hil]; exact (pick_step hg).2.1 (by omega) (by show s1 e ≠ 0; omega))) (by omega)
                · skip
                  intro q9
                  refine pw_istore (ls' := [some (vR 12 (0)), some (vI (bs)), some (vI (n)), some (vI (g)), some (vI ((i + 1))), some (vI (1)), some (vI (s2 e)), some (vI (0))]) r_12_workOut_116 rfl rfl ?_
                  refine pw_goto r_12_workOut_118 ?_
                  refine pw_weakL (ls' := [some (vR 12 (0)), some (vI (bs)), some (vI (n)), some (vI (g)), some (vI ((i + 1))), some (vI (1)), none, none]) (⟨rfl, ⟨rfl, ⟨rfl, ⟨rfl, ⟨rfl, ⟨rfl, trivial⟩⟩⟩⟩⟩⟩) ?_
                  refine pw_eqG (G' := sF (sF (sF (sF (sF (sF G 12 (0) 44 (bs)) 12 (0) 45 (a2 + 1)) 12 (0) 46 (n)) 12 (0) 47 (-1)) 12 (0) 48 (0)) 12 (0) 50 (ln)) (by first | rfl | (simp (disch := decide) only [sF_sF, sF_srt])) ?_
                  exact ih38 ((i + 1)) (1) (g) (a2 + 1) (ln) (Ls ++ [(some s1, s2)]) (by first | exact stT_more hS (Or.inr ⟨a1, s1, s2, rfl, q1, by omega, p1⟩) (by omega) (by omega) | exact stT_stop hS (Or.inr ⟨a1, s1, s2, rfl, q1, by omega, p1⟩) (by omega)) (by first | exact Or.inl rfl | exact Or.inr rfl) (by first | assumption | omega) (by first | assumption | omega) (by have hil := hS.1; first | exact (pick_step hg).1 (by omega) | exact (pick_step hg).2.2 (by omega) (by show ¬ (s1 e ≠ 0); omega) | (by_cases q : ln < 0; exact (pick_step hg).2.2 q (by show ¬ (s1 e ≠ 0); omega); exact (pick_step hg).1 q) | (rw [hil]; exact (pick_step hg).2.1 (by omega) (by show s1 e ≠ 0; omega))) (by omega)
            · skip
              refine pw_const r_12_workOut_66 ?_
              refine pw_goto r_12_workOut_67 ?_
              refine pw_istore (ls' := [some (vR 12 (0)), some (vI (bs)), some (vI (n)), some (vI (g)), some (vI (i)), some (vI (m)), some (vI (s1 e)), some (vI (1))]) r_12_workOut_71 rfl rfl ?_
              refine pw_aload r_12_workOut_73 rfl ?_
              refine pw_callV (av := []) (st := []) (ls0 := [some (vR 12 (0)), none, none]) r_12_workOut_74 rfl rfl rfl (Nat.le_refl _) ?_
              refine sp_X12_either (89) (d := _) (o := 0) (n := n) (a := (a1 + 1)) (bs := bs) (b := b) (e := e) (by omega) (by exact hb) (by rfl) (by first | assumption | exact hba | omega) (by rfl) (by first | assumption | exact hnn | omega) (by rfl) (by first | assumption | exact haa | omega) (by show (-1 : Int) < 0; decide) (by first | assumption | exact ho | omega) (by rfl) (by exact hve) ?_ ?_
              · skip
                intro f1 v1 x1 p1 p2 p3 p4 p5
                have hF : EvT b n 0 (.inl f1) := stT_f hS (EvT_f2 q1 (by omega) p1)
                refine pw_istore (ls' := [some (vR 12 (0)), some (vI (bs)), some (vI (n)), some (vI (g)), some (vI (i)), some (vI (m)), some (vI (v1)), some (vI (1))]) r_12_workOut_77 rfl rfl ?_
                refine pw_aload r_12_workOut_79 rfl ?_
                refine pw_getIv (v := f1) r_12_workOut_80 fs_12_47 (by decide) (by first | rfl | simp [gF_sF, gF_sA, gF_uA, gF_sD, gA_sF, gA_sA, gA_uA, gA_sD, gD_sF, gD_sA, gD_uA, gD_sD]) ?_
                refine pw_if_ge r_12_workOut_83 (fun h83 => ?_) (fun h83 => absurd h83 (by omega))
                refine pw_eqG (G' := sF (sF (sF (sF (sF (sF G 12 (0) 44 (bs)) 12 (0) 45 (f1)) 12 (0) 46 (n)) 12 (0) 47 (f1)) 12 (0) 48 (x1)) 12 (0) 50 (ln)) (by first | rfl | (simp (disch := decide) only [sF_sF, sF_srt])) ?_
                refine pw_iinc (b := 0) (ls' := [some (vR 12 (0)), some (vI (bs)), some (vI (n)), some (vI (g)), some (vI ((i + 1))), some (vI (m)), some (vI (v1)), some (vI (1))]) r_12_workOut_107 rfl rfl (by omega) rfl ?_
                refine pw_aload r_12_workOut_110 rfl ?_
                refine pw_const r_12_workOut_111 ?_
                refine pw_callV (av := [vI (59)]) (st := []) (ls0 := [some (vR 12 (0)), some (vI (59))]) r_12_workOut_113 rfl rfl rfl (Nat.le_refl _) ?_
                refine tkF (by first | (show 0 ≤ f1; omega) | (simp (disch := decide) only [gF_sF]; first | done | omega | (simp; first | done | omega))) ?_
                refine pw_istore (ls' := [some (vR 12 (0)), some (vI (bs)), some (vI (n)), some (vI (g)), some (vI ((i + 1))), some (vI (0)), some (vI (v1)), some (vI (1))]) r_12_workOut_116 rfl rfl ?_
                refine pw_goto r_12_workOut_118 ?_
                refine pw_iload r_12_workOut_38 rfl ?_
                refine pw_if_eq r_12_workOut_40 (fun h40 => ?_) (fun h40 => absurd h40 (by decide))
                refine pw_aload r_12_workOut_121 rfl ?_
                refine pw_getIv (v := f1) r_12_workOut_122 fs_12_47 (by decide) (by first | rfl | simp [gF_sF, gF_sA, gF_uA, gF_sD, gA_sF, gA_sA, gA_uA, gA_sD, gD_sF, gD_sA, gD_uA, gD_sD]) ?_
                refine pw_if_ge r_12_workOut_125 (fun h125 => ?_) (fun h125 => absurd h125 (by omega))
                refine pw_iload r_12_workOut_144 rfl ?_
                refine pw_iret r_12_workOut_145 rfl (Nat.le_refl _) ⟨rfl, ?_⟩
                exact h1 f1 _ _ _ hF (by omega) (by omega)
              · skip
                intro a2 s2 p1 p2 p3
                have hl2 := byt_sgn b n a2
                refine pw_istore (ls' := [some (vR 12 (0)), some (vI (bs)), some (vI (n)), some (vI (g)), some (vI (i)), some (vI (m)), some (vI (s2 e)), some (vI (1))]) r_12_workOut_77 rfl rfl ?_
                refine pw_aload r_12_workOut_79 rfl ?_
                refine pw_getIv (v := -1) r_12_workOut_80 fs_12_47 (by decide) (by first | rfl | simp [gF_sF, gF_sA, gF_uA, gF_sD, gA_sF, gA_sA, gA_uA, gA_sD, gD_sF, gD_sA, gD_uA, gD_sD]) ?_
                refine pw_if_ge r_12_workOut_83 (fun h83 => absurd h83 (by decide)) (fun h83 => ?_)
                refine pw_iload r_12_workOut_86 rfl ?_
                refine pw_if_eq r_12_workOut_88 (fun h88 => absurd h88 (by decide)) (fun h88 => ?_)
                refine pw_aload r_12_workOut_91 rfl ?_
                refine pw_getIv (v := ln) r_12_workOut_92 fs_12_50 (by decide) (by first | rfl | simp [gF_sF, gF_sA, gF_uA, gF_sD, gA_sF, gA_sA, gA_uA, gA_sD, gD_sF, gD_sA, gD_uA, gD_sD]) ?_
                refine pw_if_ge r_12_workOut_95 (fun h95 => ?_) (fun h95 => ?_)
                · skip
                  refine pw_eqG (G' := sF (sF (sF (sF (sF (sF G 12 (0) 44 (bs)) 12 (0) 45 (a2)) 12 (0) 46 (n)) 12 (0) 47 (-1)) 12 (0) 48 (0)) 12 (0) 50 (ln)) (by first | rfl | (simp (disch := decide) only [sF_sF, sF_srt])) ?_
                  refine pw_iinc (b := 0) (ls' := [some (vR 12 (0)), some (vI (bs)), some (vI (n)), some (vI (g)), some (vI ((i + 1))), some (vI (m)), some (vI (s2 e)), some (vI (1))]) r_12_workOut_107 rfl rfl (by omega) rfl ?_
                  refine pw_aload r_12_workOut_110 rfl ?_
                  refine pw_const r_12_workOut_111 ?_
                  refine pw_callV (av := [vI (59)]) (st := []) (ls0 := [some (vR 12 (0)), some (vI (59))]) r_12_workOut_113 rfl rfl rfl (Nat.le_refl _) ?_
                  refine tkO (n := n) (a := a2) (bs := bs) (b := b) (by exact hb) (by rfl) (by first | assumption | exact hba | omega) (by rfl) (by first | assumption | exact hnn | omega) (by rfl) (by first | assumption | exact haa | omega) (by show (-1 : Int) < 0; decide) ?_ ?_
                  · skip
                    intro q9
                    refine pw_istore (ls' := [some (vR 12 (0)), some (vI (bs)), some (vI (n)), some (vI (g)), some (vI ((i + 1))), some (vI (0)), some (vI (s2 e)), some (vI (1))]) r_12_workOut_116 rfl rfl ?_
                    refine pw_goto r_12_workOut_118 ?_
                    refine pw_weakL (ls' := [some (vR 12 (0)), some (vI (bs)), some (vI (n)), some (vI (g)), some (vI ((i + 1))), some (vI (0)), none, none]) (⟨rfl, ⟨rfl, ⟨rfl, ⟨rfl, ⟨rfl, ⟨rfl, trivial⟩⟩⟩⟩⟩⟩) ?_
                    exact ih38 ((i + 1)) (0) (g) (a2) (ln) (Ls ++ [(some s1, s2)]) (by first | exact stT_more hS (Or.inr ⟨a1, s1, s2, rfl, q1, by omega, p1⟩) (by omega) (by omega) | exact stT_stop hS (Or.inr ⟨a1, s1, s2, rfl, q1, by omega, p1⟩) (by omega)) (by first | exact Or.inl rfl | exact Or.inr rfl) (by first | assumption | omega) (by first | assumption | omega) (by have hil := hS.1; first | exact (pick_step hg).1 (by omega) | exact (pick_step hg).2.2 (by omega) (by show ¬ (s1 e ≠ 0); omega) | (by_cases q : ln < 0; exact (pick_step hg).2.2 q (by show ¬ (s1 e ≠ 0); omega); exact (pick_step hg).1 q) | (rw [hil]; exact (pick_step hg).2.1 (by omega) (by show s1 e ≠ 0; omega))) (by omega)
                  · skip
                    intro q9
                    refine pw_istore (ls' := [some (vR 12 (0)), some (vI (bs)), some (vI (n)), some (vI (g)), some (vI ((i + 1))), some (vI (1)), some (vI (s2 e)), some (vI (1))]) r_12_workOut_116 rfl rfl ?_
                    refine pw_goto r_12_workOut_118 ?_
                    refine pw_weakL (ls' := [some (vR 12 (0)), some (vI (bs)), some (vI (n)), some (vI (g)), some (vI ((i + 1))), some (vI (1)), none, none]) (⟨rfl, ⟨rfl, ⟨rfl, ⟨rfl, ⟨rfl, ⟨rfl, trivial⟩⟩⟩⟩⟩⟩) ?_
                    refine pw_eqG (G' := sF (sF (sF (sF (sF (sF G 12 (0) 44 (bs)) 12 (0) 45 (a2 + 1)) 12 (0) 46 (n)) 12 (0) 47 (-1)) 12 (0) 48 (0)) 12 (0) 50 (ln)) (by first | rfl | (simp (disch := decide) only [sF_sF, sF_srt])) ?_
                    exact ih38 ((i + 1)) (1) (g) (a2 + 1) (ln) (Ls ++ [(some s1, s2)]) (by first | exact stT_more hS (Or.inr ⟨a1, s1, s2, rfl, q1, by omega, p1⟩) (by omega) (by omega) | exact stT_stop hS (Or.inr ⟨a1, s1, s2, rfl, q1, by omega, p1⟩) (by omega)) (by first | exact Or.inl rfl | exact Or.inr rfl) (by first | assumption | omega) (by first | assumption | omega) (by have hil := hS.1; first | exact (pick_step hg).1 (by omega) | exact (pick_step hg).2.2 (by omega) (by show ¬ (s1 e ≠ 0); omega) | (by_cases q : ln < 0; exact (pick_step hg).2.2 q (by show ¬ (s1 e ≠ 0); omega); exact (pick_step hg).1 q) | (rw [hil]; exact (pick_step hg).2.1 (by omega) (by show s1 e ≠ 0; omega))) (by omega)
                · skip
                  refine pw_aload r_12_workOut_98 rfl ?_
                  refine pw_iload r_12_workOut_99 rfl ?_
                  refine pw_putI r_12_workOut_101 (by decide +kernel) fs_12_50 (by decide) ?_
                  refine pw_iload r_12_workOut_104 rfl ?_
                  refine pw_istore (ls' := [some (vR 12 (0)), some (vI (bs)), some (vI (n)), some (vI (s2 e)), some (vI (i)), some (vI (m)), some (vI (s2 e)), some (vI (1))]) r_12_workOut_106 rfl rfl ?_
                  refine pw_eqG (G' := sF (sF (sF (sF (sF (sF G 12 (0) 44 (bs)) 12 (0) 45 (a2)) 12 (0) 46 (n)) 12 (0) 47 (-1)) 12 (0) 48 (0)) 12 (0) 50 (i)) (by first | rfl | (simp (disch := decide) only [sF_sF, sF_srt])) ?_
                  refine pw_iinc (b := 0) (ls' := [some (vR 12 (0)), some (vI (bs)), some (vI (n)), some (vI (s2 e)), some (vI ((i + 1))), some (vI (m)), some (vI (s2 e)), some (vI (1))]) r_12_workOut_107 rfl rfl (by omega) rfl ?_
                  refine pw_aload r_12_workOut_110 rfl ?_
                  refine pw_const r_12_workOut_111 ?_
                  refine pw_callV (av := [vI (59)]) (st := []) (ls0 := [some (vR 12 (0)), some (vI (59))]) r_12_workOut_113 rfl rfl rfl (Nat.le_refl _) ?_
                  refine tkO (n := n) (a := a2) (bs := bs) (b := b) (by exact hb) (by rfl) (by first | assumption | exact hba | omega) (by rfl) (by first | assumption | exact hnn | omega) (by rfl) (by first | assumption | exact haa | omega) (by show (-1 : Int) < 0; decide) ?_ ?_
                  · skip
                    intro q9
                    refine pw_istore (ls' := [some (vR 12 (0)), some (vI (bs)), some (vI (n)), some (vI (s2 e)), some (vI ((i + 1))), some (vI (0)), some (vI (s2 e)), some (vI (1))]) r_12_workOut_116 rfl rfl ?_
                    refine pw_goto r_12_workOut_118 ?_
                    refine pw_weakL (ls' := [some (vR 12 (0)), some (vI (bs)), some (vI (n)), some (vI (s2 e)), some (vI ((i + 1))), some (vI (0)), none, none]) (⟨rfl, ⟨rfl, ⟨rfl, ⟨rfl, ⟨rfl, ⟨rfl, trivial⟩⟩⟩⟩⟩⟩) ?_
                    exact ih38 ((i + 1)) (0) (s2 e) (a2) (i) (Ls ++ [(some s1, s2)]) (by first | exact stT_more hS (Or.inr ⟨a1, s1, s2, rfl, q1, by omega, p1⟩) (by omega) (by omega) | exact stT_stop hS (Or.inr ⟨a1, s1, s2, rfl, q1, by omega, p1⟩) (by omega)) (by first | exact Or.inl rfl | exact Or.inr rfl) (by first | assumption | omega) (by first | assumption | omega) (by have hil := hS.1; first | exact (pick_step hg).1 (by omega) | exact (pick_step hg).2.2 (by omega) (by show ¬ (s1 e ≠ 0); omega) | (by_cases q : ln < 0; exact (pick_step hg).2.2 q (by show ¬ (s1 e ≠ 0); omega); exact (pick_step hg).1 q) | (rw [hil]; exact (pick_step hg).2.1 (by omega) (by show s1 e ≠ 0; omega))) (by omega)
                  · skip
                    intro q9
                    refine pw_istore (ls' := [some (vR 12 (0)), some (vI (bs)), some (vI (n)), some (vI (s2 e)), some (vI ((i + 1))), some (vI (1)), some (vI (s2 e)), some (vI (1))]) r_12_workOut_116 rfl rfl ?_
                    refine pw_goto r_12_workOut_118 ?_
                    refine pw_weakL (ls' := [some (vR 12 (0)), some (vI (bs)), some (vI (n)), some (vI (s2 e)), some (vI ((i + 1))), some (vI (1)), none, none]) (⟨rfl, ⟨rfl, ⟨rfl, ⟨rfl, ⟨rfl, ⟨rfl, trivial⟩⟩⟩⟩⟩⟩) ?_
                    refine pw_eqG (G' := sF (sF (sF (sF (sF (sF G 12 (0) 44 (bs)) 12 (0) 45 (a2 + 1)) 12 (0) 46 (n)) 12 (0) 47 (-1)) 12 (0) 48 (0)) 12 (0) 50 (i)) (by first | rfl | (simp (disch := decide) only [sF_sF, sF_srt])) ?_
                    exact ih38 ((i + 1)) (1) (s2 e) (a2 + 1) (i) (Ls ++ [(some s1, s2)]) (by first | exact stT_more hS (Or.inr ⟨a1, s1, s2, rfl, q1, by omega, p1⟩) (by omega) (by omega) | exact stT_stop hS (Or.inr ⟨a1, s1, s2, rfl, q1, by omega, p1⟩) (by omega)) (by first | exact Or.inl rfl | exact Or.inr rfl) (by first | assumption | omega) (by first | assumption | omega) (by have hil := hS.1; first | exact (pick_step hg).1 (by omega) | exact (pick_step hg).2.2 (by omega) (by show ¬ (s1 e ≠ 0); omega) | (by_cases q : ln < 0; exact (pick_step hg).2.2 q (by show ¬ (s1 e ≠ 0); omega); exact (pick_step hg).1 q) | (rw [hil]; exact (pick_step hg).2.1 (by omega) (by show s1 e ≠ 0; omega))) (by omega)
  refine pw_eqG (G' := sF (sF (sF (sF (sF (sF G 12 (0) 44 (bs)) 12 (0) 45 (0)) 12 (0) 46 (n)) 12 (0) 47 (-1)) 12 (0) 48 (0)) 12 (0) 50 ((-1))) (by first | rfl | (simp (disch := decide) only [sF_sF, sF_srt])) ?_
  exact L38 _ (0) (1) (0) (0) ((-1)) ([]) (stT_0) (Or.inr rfl) (by first | assumption | omega) (by first | assumption | omega) (rfl) (Nat.lt_succ_self _)

theorem cnt_none {p : Int → Prop} {n : Int} (hn : 0 ≤ n) (h : ∀ i, 0 ≤ i → i < n → ¬ p i) : cnt p n = 0 := by
  refine nat_ind (p := fun n => (∀ i, 0 ≤ i → i < n → ¬ p i) → cnt p n = 0) (fun _ => rfl) (fun n hn ih h => ?_) n hn h
  rw [cnt_f hn (h n hn (by omega)), ih (fun i a b => h i a (by omega))]
def JnB (E : Int → Int → Prop) (m r : Int) (J : Int → Int) : Prop := J r = 1 ∧ ∀ x, 0 ≤ x → x < m → (J x = 1 ∧ Rch E m r x) ∨ J x = 0
def JnC (E : Int → Int → Prop) (m : Int) (J : Int → Int) (a b : Int) : Prop := ∀ x y, 0 ≤ x → x < m → 0 ≤ y → y < m → (x < a ∨ (x = a ∧ y < b)) → J x = 1 → E x y → J y = 1
def JnP (E : Int → Int → Prop) (m r : Int) (J : Int → Int) : Prop := ∀ x, 0 ≤ x → x < m → (J x = 1 ∧ Rch E m r x) ∨ (J x = 0 ∧ ¬ Rch E m r x)
theorem JnB_0 {E : Int → Int → Prop} {m r : Int} {J : Int → Int} (hr : 0 ≤ r ∧ r < m) (h : ∀ x, 0 ≤ x → x < m → (x = r ∧ J x = 1) ∨ (x ≠ r ∧ J x = 0)) : JnB E m r J := by
  refine ⟨by have := h r hr.1 hr.2; omega, fun x x0 x1 => ?_⟩
  rcases h x x0 x1 with ⟨e, z⟩ | ⟨-, z⟩
  · rw [e] at z ⊢; exact Or.inl ⟨z, Rch_rf⟩
  · exact Or.inr z
theorem JnB_take {E : Int → Int → Prop} {m r a b : Int} {J : Int → Int} (h : JnB E m r J) (a0 : 0 ≤ a) (a1 : a < m) (b0 : 0 ≤ b) (b1 : b < m) (ha : J a ≠ 0) (hb : J b = 0) (e : E a b) : JnB E m r (upA J b 1) ∧ cnt (fun x => upA J b 1 x = 0) m + 1 = cnt (fun x => J x = 0) m := by
  refine ⟨⟨?_, fun x x0 x1 => ?_⟩, ?_⟩
  · unfold upA; split; rfl; exact h.1
  · by_cases z : x = b
    · rw [z, upA_same]
      rcases h.2 a a0 a1 with q | q
      · exact Or.inl ⟨rfl, Rch_step q.2 a0 a1 b0 b1 e⟩
      · exact absurd q ha
    · rw [upA_ne z]; exact h.2 x x0 x1
  · refine (cnt_ins (p := fun x => upA J b 1 x = 0) (q := fun x => J x = 0) b0 b1 (by show ¬ upA J b 1 b = 0; rw [upA_same]; decide) (fun x => ?_)).symm
    by_cases z : x = b
    · rw [z, upA_same]; exact ⟨fun _ => Or.inr rfl, fun _ => hb⟩
    · rw [upA_ne z]; exact ⟨fun q => Or.inl q, fun q => q.resolve_right z⟩
theorem JnC_0 {E : Int → Int → Prop} {m : Int} {J : Int → Int} : JnC E m J 0 0 := fun x y x0 _ y0 _ h => by omega
theorem JnC_b {E : Int → Int → Prop} {m a b : Int} {J : Int → Int} (h : JnC E m J a b) (hb : J a = 0 ∨ J b ≠ 0 ∨ ¬ E a b) (hJ : ∀ x, 0 ≤ x → x < m → J x = 1 ∨ J x = 0) : JnC E m J a (b + 1) := fun x y x0 x1 y0 y1 hlt hx e => by
  by_cases z : x = a ∧ y = b
  · rw [z.1] at hx e
    rw [z.2] at e ⊢
    rcases hb with q | q | q
    · omega
    · have := hJ b (by omega) (by omega); omega
    · exact absurd e q
  · exact h x y x0 x1 y0 y1 (by omega) hx e
theorem JnC_a {E : Int → Int → Prop} {m a b : Int} {J : Int → Int} (h : JnC E m J a b) (hb : m ≤ b) : JnC E m J (a + 1) 0 := fun x y x0 x1 y0 y1 hlt hx e => h x y x0 x1 y0 y1 (by omega) hx e
theorem JnP_end {E : Int → Int → Prop} {m r a : Int} {J : Int → Int} (h : JnB E m r J) (hr : 0 ≤ r ∧ r < m) (hc : JnC E m J a 0) (ha : m ≤ a) : JnP E m r J := fun x x0 x1 => by
  have key : ∀ x, Rch E m r x → J x = 1 := fun x hr => hr (fun y => J y = 1) h.1 fun u v u0 u1 v0 v1 hu e => hc u v u0 u1 v0 v1 (by omega) hu e
  rcases h.2 x x0 x1 with q | q
  · exact Or.inl q
  · exact Or.inr ⟨q, fun z => by have := key x z; omega⟩
/-! clashes: pairs in order -/
noncomputable def clS (C : Int → Int → Prop) (m a : Int) : Int := sumI (fun x => cnt (fun b => x < b ∧ C x b) m) a
def clN (C : Int → Int → Prop) (m a : Int) : Prop := ∀ x y, 0 ≤ x → x < a → x < y → y < m → ¬ C x y
def clF (C : Int → Int → Prop) (m f s : Int) : Prop := (0 ≤ f ∧ f < s ∧ s < m) ∧ C f s ∧ ∀ x y, 0 ≤ x → x < y → y < m → C x y → f < x ∨ (f = x ∧ s ≤ y)
def clV (C : Int → Int → Prop) (m k v : Int) : Prop := (k = 0 ∧ v = clS C m m) ∨ (k ≠ 0 ∧ clN C m m ∧ v = -4) ∨ (k ≠ 0 ∧ ∃ f s, clF C m f s ∧ ((k = 1 ∧ v = f) ∨ (k = 2 ∧ v = s)))
theorem clV_one {C D : Int → Int → Prop} {m k v v1 : Int} (hm : 0 ≤ m) (hC : ∀ x y, 0 ≤ x → x < y → y < m → (C x y ↔ D x y)) (h : clV C m k v) (h1 : clV D m k v1) : v1 = v := by
  have hN : clN C m m → clN D m m := fun n x y x0 x1 xy y1 d => n x y x0 x1 xy y1 ((hC x y x0 xy y1).mpr d)
  rcases h with ⟨a, b⟩ | ⟨a, b, c⟩ | ⟨a, f, s, b, c⟩
  · rcases h1 with ⟨a1, b1⟩ | ⟨a1, -⟩ | ⟨a1, -⟩
    · rw [b, b1]
      refine sumI_congr hm fun x x0 x1 => cnt_congr fun y y0 y1 => ?_
      exact and_congr_right fun q => (hC x y x0 q y1).symm
    · exact absurd a a1
    · exact absurd a a1
  · rcases h1 with ⟨a1, -⟩ | ⟨-, -, c1⟩ | ⟨-, f1, s1, g1, -⟩
    · exact absurd a1 a
    · rw [c, c1]
    · exact absurd g1.2.1 (hN b f1 s1 g1.1.1 (by have := g1.1; omega) g1.1.2.1 g1.1.2.2)
  · rcases h1 with ⟨a1, -⟩ | ⟨-, n1, -⟩ | ⟨-, f1, s1, g1, c1⟩
    · exact absurd a1 a
    · exact absurd ((hC f s b.1.1 b.1.2.1 b.1.2.2).mp b.2.1) (n1 f s b.1.1 (by have := b.1; omega) b.1.2.1 b.1.2.2)
    · have e1 := b.2.2 f1 s1 g1.1.1 g1.1.2.1 g1.1.2.2 ((hC f1 s1 g1.1.1 g1.1.2.1 g1.1.2.2).mpr g1.2.1)
      have e2 := g1.2.2 f s b.1.1 b.1.2.1 b.1.2.2 ((hC f s b.1.1 b.1.2.1 b.1.2.2).mp b.2.1)
      omega
theorem clN_s {C : Int → Int → Prop} {m a : Int} (h : clN C m a) (h1 : ∀ y, a < y → y < m → ¬ C a y) : clN C m (a + 1) := fun x y x0 x1 xy y1 => by
  by_cases e : x = a
  · rw [e] at xy ⊢; exact h1 y xy y1
  · exact h x y x0 (by omega) xy y1
theorem clF_of {C : Int → Int → Prop} {m a b : Int} (a0 : 0 ≤ a) (ab : a < b) (b1 : b < m) (h : clN C m a) (hb : ∀ y, a < y → y < b → ¬ C a y) (hc : C a b) : clF C m a b := ⟨⟨a0, ab, b1⟩, hc, fun x y x0 xy y1 c => by
  rcases Int.lt_trichotomy x a with q | q | q
  · exact absurd c (h x y x0 q xy y1)
  · rcases Int.lt_or_le y b with z | z
    · rw [q] at c xy; exact absurd c (hb y xy z)
    · exact Or.inr ⟨q.symm, z⟩
  · exact Or.inl q⟩
theorem clS_s {C : Int → Int → Prop} {m a : Int} (h : 0 ≤ a) : clS C m (a + 1) = clS C m a + cnt (fun b => a < b ∧ C a b) m := sumI_s _ h

theorem wd_f5_33 : Cond.fieldLink "NameRolls$Rolls" 33 "NameRolls$Rolls" "groupOf" "[I" ∈ UW := UW2_at 33 (by decide +kernel) rfl
theorem wd_f5_36 : Cond.fieldLink "NameRolls$Rolls" 36 "NameRolls$Rolls" "reached" "[I" ∈ UW := UW2_at 34 (by decide +kernel) rfl
theorem wd_m5_95 : Cond.methodLink "NameRolls$Rolls" 95 M_X5_isSure.1 ∈ UW := UW5_at 137 (by decide +kernel) rfl
theorem wd_s5_isSure : Cond.selects M_X5_isSure.1.cls M_X5_isSure.1 M_X5_isSure.1 ∈ UW := UWp_at 28 (by decide +kernel) rfl
theorem wd_m5_91 : Cond.methodLink "NameRolls$Rolls" 91 M_X5_groupFrom.1 ∈ UW := UW5_at 133 (by decide +kernel) rfl
theorem wd_s5_groupFrom : Cond.selects M_X5_groupFrom.1.cls M_X5_groupFrom.1 M_X5_groupFrom.1 ∈ UW := UWp_at 27 (by decide +kernel) rfl
theorem wd_m5_98 : Cond.methodLink "NameRolls$Rolls" 98 M_X5_groupAll.1 ∈ UW := UW5_at 129 (by decide +kernel) rfl
theorem wd_s5_groupAll : Cond.selects M_X5_groupAll.1.cls M_X5_groupAll.1 M_X5_groupAll.1 ∈ UW := UWp_at 26 (by decide +kernel) rfl
theorem wd_m5_101 : Cond.methodLink "NameRolls$Rolls" 101 M_X5_mustBeApart.1 ∈ UW := UW5_at 149 (by decide +kernel) rfl
theorem wd_s5_mustBeApart : Cond.selects M_X5_mustBeApart.1.cls M_X5_mustBeApart.1 M_X5_mustBeApart.1 ∈ UW := UWp_at 29 (by decide +kernel) rfl
theorem wd_f12_138 : Cond.fieldLink "NameRollsModel" 138 "NameRollsModel" "isJoined" "[Z" ∈ UW := UW7_at 127 (by decide +kernel) rfl
theorem wd_m12_421 : Cond.methodLink "NameRollsModel" 421 M_X12_findJoined.1 ∈ UW := UW9_at 179 (by decide +kernel) rfl
theorem wd_s12_findJoined : Cond.selects M_X12_findJoined.1.cls M_X12_findJoined.1 M_X12_findJoined.1 ∈ UW := UWp_at 90 (by decide +kernel) rfl
theorem wd_m12_425 : Cond.methodLink "NameRollsModel" 425 M_X12_mustBeApart.1 ∈ UW := UW9_at 187 (by decide +kernel) rfl
theorem wd_s12_mustBeApart : Cond.selects M_X12_mustBeApart.1.cls M_X12_mustBeApart.1 M_X12_mustBeApart.1 ∈ UW := UWp_at 91 (by decide +kernel) rfl
theorem wd_m11_169 : Cond.methodLink "NameRolls" 169 M_X5_countJoined.1 ∈ UW := UW5_at 125 (by decide +kernel) rfl
theorem wd_s5_countJoined : Cond.selects M_X5_countJoined.1.cls M_X5_countJoined.1 M_X5_countJoined.1 ∈ UW := UW5_at 127 (by decide +kernel) rfl
theorem wd_m11_172 : Cond.methodLink "NameRolls" 172 M_X5_tellClash.1 ∈ UW := UW5_at 145 (by decide +kernel) rfl
theorem wd_s5_tellClash : Cond.selects M_X5_tellClash.1.cls M_X5_tellClash.1 M_X5_tellClash.1 ∈ UW := UW5_at 147 (by decide +kernel) rfl
theorem r_5_groupFrom_0 : RA M_X5_groupFrom 0 0 1 := Or.inl ⟨0, by decide +kernel, rfl, rfl⟩
theorem r_5_groupFrom_1 : RG M_X5_groupFrom 1 5 7 4 := ⟨33, _, by decide +kernel, rfl, by decide, wd_f5_33, rfl, rfl⟩
theorem r_5_groupFrom_4 : RL M_X5_groupFrom 4 1 5 := Or.inl ⟨1, by decide +kernel, rfl, rfl⟩
theorem r_5_groupFrom_5 : RL M_X5_groupFrom 5 1 6 := Or.inl ⟨1, by decide +kernel, rfl, rfl⟩
theorem r_5_groupFrom_6 : RW M_X5_groupFrom 6 .iastore 7 1 := ⟨by decide +kernel, rfl⟩
theorem r_5_groupFrom_7 : RA M_X5_groupFrom 7 0 8 := Or.inl ⟨0, by decide +kernel, rfl, rfl⟩
theorem r_5_groupFrom_8 : RG M_X5_groupFrom 8 5 8 11 := ⟨36, _, by decide +kernel, rfl, by decide, wd_f5_36, rfl, rfl⟩
theorem r_5_groupFrom_11 : RC M_X5_groupFrom 11 0 12 := ⟨⟨by decide, by decide⟩, Or.inl ⟨by decide +kernel, rfl⟩⟩
theorem r_5_groupFrom_12 : RL M_X5_groupFrom 12 1 13 := Or.inl ⟨1, by decide +kernel, rfl, rfl⟩
theorem r_5_groupFrom_13 : RW M_X5_groupFrom 13 .iastore 14 1 := ⟨by decide +kernel, rfl⟩
theorem r_5_groupFrom_14 : RC M_X5_groupFrom 14 1 15 := ⟨⟨by decide, by decide⟩, Or.inl ⟨by decide +kernel, rfl⟩⟩
theorem r_5_groupFrom_15 : RS M_X5_groupFrom 15 2 16 := ⟨by decide, Or.inl ⟨2, by decide +kernel, rfl, rfl⟩⟩
theorem r_5_groupFrom_16 : RC M_X5_groupFrom 16 0 17 := ⟨⟨by decide, by decide⟩, Or.inl ⟨by decide +kernel, rfl⟩⟩
theorem r_5_groupFrom_17 : RS M_X5_groupFrom 17 3 18 := ⟨by decide, Or.inl ⟨3, by decide +kernel, rfl, rfl⟩⟩
theorem r_5_groupFrom_18 : RL M_X5_groupFrom 18 3 19 := Or.inl ⟨3, by decide +kernel, rfl, rfl⟩
theorem r_5_groupFrom_19 : RL M_X5_groupFrom 19 2 20 := Or.inl ⟨2, by decide +kernel, rfl, rfl⟩
theorem r_5_groupFrom_20 : RB M_X5_groupFrom 20 (.if_icmp .ge) 104 23 := ⟨84, by decide +kernel, rfl, rfl⟩
theorem r_5_groupFrom_104 : RW M_X5_groupFrom 104 .return_ 105 1 := ⟨by decide +kernel, rfl⟩
theorem r_5_groupFrom_23 : RL M_X5_groupFrom 23 3 24 := Or.inl ⟨3, by decide +kernel, rfl, rfl⟩
theorem r_5_groupFrom_24 : RC M_X5_groupFrom 24 100 26 := ⟨⟨by decide, by decide⟩, Or.inr (Or.inl ⟨by decide +kernel, by decide, rfl⟩)⟩
theorem r_5_groupFrom_26 : RB M_X5_groupFrom 26 (.if_icmp .ge) 104 29 := ⟨78, by decide +kernel, rfl, rfl⟩
theorem r_5_groupFrom_29 : RC M_X5_groupFrom 29 0 30 := ⟨⟨by decide, by decide⟩, Or.inl ⟨by decide +kernel, rfl⟩⟩
theorem r_5_groupFrom_30 : RS M_X5_groupFrom 30 4 32 := ⟨by decide, Or.inr ⟨by decide +kernel, rfl⟩⟩
theorem r_5_groupFrom_32 : RL M_X5_groupFrom 32 4 34 := Or.inr ⟨by decide +kernel, rfl⟩
theorem r_5_groupFrom_34 : RA M_X5_groupFrom 34 0 35 := Or.inl ⟨0, by decide +kernel, rfl, rfl⟩
theorem r_5_groupFrom_35 : RG M_X5_groupFrom 35 5 0 38 := ⟨54, _, by decide +kernel, rfl, by decide, wd_f5_54, rfl, rfl⟩
theorem r_5_groupFrom_38 : RB M_X5_groupFrom 38 (.if_icmp .ge) 98 41 := ⟨60, by decide +kernel, rfl, rfl⟩
theorem r_5_groupFrom_98 : RI M_X5_groupFrom 98 3 1 101 := ⟨by decide, by decide +kernel, rfl⟩
theorem r_5_groupFrom_101 : RB M_X5_groupFrom 101 .goto 18 104 := ⟨(-83), by decide +kernel, rfl, rfl⟩
theorem r_5_groupFrom_41 : RA M_X5_groupFrom 41 0 42 := Or.inl ⟨0, by decide +kernel, rfl, rfl⟩
theorem r_5_groupFrom_42 : RG M_X5_groupFrom 42 5 7 45 := ⟨33, _, by decide +kernel, rfl, by decide, wd_f5_33, rfl, rfl⟩
theorem r_5_groupFrom_45 : RL M_X5_groupFrom 45 4 47 := Or.inr ⟨by decide +kernel, rfl⟩
theorem r_5_groupFrom_47 : RW M_X5_groupFrom 47 .iaload 48 1 := ⟨by decide +kernel, rfl⟩
theorem r_5_groupFrom_48 : RC M_X5_groupFrom 48 (-1) 49 := ⟨⟨by decide, by decide⟩, Or.inl ⟨by decide +kernel, rfl⟩⟩
theorem r_5_groupFrom_49 : RB M_X5_groupFrom 49 (.if_icmp .ne) 92 52 := ⟨43, by decide +kernel, rfl, rfl⟩
theorem r_5_groupFrom_92 : RI M_X5_groupFrom 92 4 1 95 := ⟨by decide, by decide +kernel, rfl⟩
theorem r_5_groupFrom_95 : RB M_X5_groupFrom 95 .goto 32 98 := ⟨(-63), by decide +kernel, rfl, rfl⟩
theorem r_5_groupFrom_52 : RL M_X5_groupFrom 52 2 53 := Or.inl ⟨2, by decide +kernel, rfl, rfl⟩
theorem r_5_groupFrom_53 : RC M_X5_groupFrom 53 100 55 := ⟨⟨by decide, by decide⟩, Or.inr (Or.inl ⟨by decide +kernel, by decide, rfl⟩)⟩
theorem r_5_groupFrom_55 : RB M_X5_groupFrom 55 (.if_icmp .ge) 92 58 := ⟨37, by decide +kernel, rfl, rfl⟩
theorem r_5_groupFrom_58 : RA M_X5_groupFrom 58 0 59 := Or.inl ⟨0, by decide +kernel, rfl, rfl⟩
theorem r_5_groupFrom_59 : RA M_X5_groupFrom 59 0 60 := Or.inl ⟨0, by decide +kernel, rfl, rfl⟩
theorem r_5_groupFrom_60 : RG M_X5_groupFrom 60 5 8 63 := ⟨36, _, by decide +kernel, rfl, by decide, wd_f5_36, rfl, rfl⟩
theorem r_5_groupFrom_63 : RL M_X5_groupFrom 63 3 64 := Or.inl ⟨3, by decide +kernel, rfl, rfl⟩
theorem r_5_groupFrom_64 : RW M_X5_groupFrom 64 .iaload 65 1 := ⟨by decide +kernel, rfl⟩
theorem r_5_groupFrom_65 : RL M_X5_groupFrom 65 4 67 := Or.inr ⟨by decide +kernel, rfl⟩
theorem r_5_groupFrom_67 : RKv M_X5_groupFrom M_X5_isSure 67 2 5 70 := ⟨95, by decide +kernel, wd_m5_95, ok_M_X5_isSure, wd_s5_isSure, rfl⟩
theorem r_5_groupFrom_70 : RB M_X5_groupFrom 70 (.ifCond .eq) 92 73 := ⟨22, by decide +kernel, rfl, rfl⟩
theorem r_5_groupFrom_73 : RA M_X5_groupFrom 73 0 74 := Or.inl ⟨0, by decide +kernel, rfl, rfl⟩
theorem r_5_groupFrom_74 : RG M_X5_groupFrom 74 5 7 77 := ⟨33, _, by decide +kernel, rfl, by decide, wd_f5_33, rfl, rfl⟩
theorem r_5_groupFrom_77 : RL M_X5_groupFrom 77 4 79 := Or.inr ⟨by decide +kernel, rfl⟩
theorem r_5_groupFrom_79 : RL M_X5_groupFrom 79 1 80 := Or.inl ⟨1, by decide +kernel, rfl, rfl⟩
theorem r_5_groupFrom_80 : RW M_X5_groupFrom 80 .iastore 81 1 := ⟨by decide +kernel, rfl⟩
theorem r_5_groupFrom_81 : RA M_X5_groupFrom 81 0 82 := Or.inl ⟨0, by decide +kernel, rfl, rfl⟩
theorem r_5_groupFrom_82 : RG M_X5_groupFrom 82 5 8 85 := ⟨36, _, by decide +kernel, rfl, by decide, wd_f5_36, rfl, rfl⟩
theorem r_5_groupFrom_85 : RL M_X5_groupFrom 85 2 86 := Or.inl ⟨2, by decide +kernel, rfl, rfl⟩
theorem r_5_groupFrom_86 : RL M_X5_groupFrom 86 4 88 := Or.inr ⟨by decide +kernel, rfl⟩
theorem r_5_groupFrom_88 : RW M_X5_groupFrom 88 .iastore 89 1 := ⟨by decide +kernel, rfl⟩
theorem r_5_groupFrom_89 : RI M_X5_groupFrom 89 2 1 92 := ⟨by decide, by decide +kernel, rfl⟩
theorem r_5_groupAll_0 : RC M_X5_groupAll 0 0 1 := ⟨⟨by decide, by decide⟩, Or.inl ⟨by decide +kernel, rfl⟩⟩
theorem r_5_groupAll_1 : RS M_X5_groupAll 1 1 2 := ⟨by decide, Or.inl ⟨1, by decide +kernel, rfl, rfl⟩⟩
theorem r_5_groupAll_2 : RL M_X5_groupAll 2 1 3 := Or.inl ⟨1, by decide +kernel, rfl, rfl⟩
theorem r_5_groupAll_3 : RA M_X5_groupAll 3 0 4 := Or.inl ⟨0, by decide +kernel, rfl, rfl⟩
theorem r_5_groupAll_4 : RG M_X5_groupAll 4 5 0 7 := ⟨54, _, by decide +kernel, rfl, by decide, wd_f5_54, rfl, rfl⟩
theorem r_5_groupAll_7 : RB M_X5_groupAll 7 (.if_icmp .ge) 23 10 := ⟨16, by decide +kernel, rfl, rfl⟩
theorem r_5_groupAll_23 : RC M_X5_groupAll 23 0 24 := ⟨⟨by decide, by decide⟩, Or.inl ⟨by decide +kernel, rfl⟩⟩
theorem r_5_groupAll_24 : RS M_X5_groupAll 24 1 25 := ⟨by decide, Or.inl ⟨1, by decide +kernel, rfl, rfl⟩⟩
theorem r_5_groupAll_25 : RL M_X5_groupAll 25 1 26 := Or.inl ⟨1, by decide +kernel, rfl, rfl⟩
theorem r_5_groupAll_26 : RA M_X5_groupAll 26 0 27 := Or.inl ⟨0, by decide +kernel, rfl, rfl⟩
theorem r_5_groupAll_27 : RG M_X5_groupAll 27 5 0 30 := ⟨54, _, by decide +kernel, rfl, by decide, wd_f5_54, rfl, rfl⟩
theorem r_5_groupAll_30 : RB M_X5_groupAll 30 (.if_icmp .ge) 54 33 := ⟨24, by decide +kernel, rfl, rfl⟩
theorem r_5_groupAll_54 : RW M_X5_groupAll 54 .return_ 55 1 := ⟨by decide +kernel, rfl⟩
theorem r_5_groupAll_33 : RA M_X5_groupAll 33 0 34 := Or.inl ⟨0, by decide +kernel, rfl, rfl⟩
theorem r_5_groupAll_34 : RG M_X5_groupAll 34 5 7 37 := ⟨33, _, by decide +kernel, rfl, by decide, wd_f5_33, rfl, rfl⟩
theorem r_5_groupAll_37 : RL M_X5_groupAll 37 1 38 := Or.inl ⟨1, by decide +kernel, rfl, rfl⟩
theorem r_5_groupAll_38 : RW M_X5_groupAll 38 .iaload 39 1 := ⟨by decide +kernel, rfl⟩
theorem r_5_groupAll_39 : RC M_X5_groupAll 39 (-1) 40 := ⟨⟨by decide, by decide⟩, Or.inl ⟨by decide +kernel, rfl⟩⟩
theorem r_5_groupAll_40 : RB M_X5_groupAll 40 (.if_icmp .ne) 48 43 := ⟨8, by decide +kernel, rfl, rfl⟩
theorem r_5_groupAll_48 : RI M_X5_groupAll 48 1 1 51 := ⟨by decide, by decide +kernel, rfl⟩
theorem r_5_groupAll_51 : RB M_X5_groupAll 51 .goto 25 54 := ⟨(-26), by decide +kernel, rfl, rfl⟩
theorem r_5_groupAll_43 : RA M_X5_groupAll 43 0 44 := Or.inl ⟨0, by decide +kernel, rfl, rfl⟩
theorem r_5_groupAll_44 : RL M_X5_groupAll 44 1 45 := Or.inl ⟨1, by decide +kernel, rfl, rfl⟩
theorem r_5_groupAll_45 : RKv M_X5_groupAll M_X5_groupFrom 45 1 5 48 := ⟨91, by decide +kernel, wd_m5_91, ok_M_X5_groupFrom, wd_s5_groupFrom, rfl⟩
theorem r_5_groupAll_10 : RA M_X5_groupAll 10 0 11 := Or.inl ⟨0, by decide +kernel, rfl, rfl⟩
theorem r_5_groupAll_11 : RG M_X5_groupAll 11 5 7 14 := ⟨33, _, by decide +kernel, rfl, by decide, wd_f5_33, rfl, rfl⟩
theorem r_5_groupAll_14 : RL M_X5_groupAll 14 1 15 := Or.inl ⟨1, by decide +kernel, rfl, rfl⟩
theorem r_5_groupAll_15 : RC M_X5_groupAll 15 (-1) 16 := ⟨⟨by decide, by decide⟩, Or.inl ⟨by decide +kernel, rfl⟩⟩
theorem r_5_groupAll_16 : RW M_X5_groupAll 16 .iastore 17 1 := ⟨by decide +kernel, rfl⟩
theorem r_5_groupAll_17 : RI M_X5_groupAll 17 1 1 20 := ⟨by decide, by decide +kernel, rfl⟩
theorem r_5_groupAll_20 : RB M_X5_groupAll 20 .goto 2 23 := ⟨(-18), by decide +kernel, rfl, rfl⟩
theorem r_5_countJoined_0 : RA M_X5_countJoined 0 0 1 := Or.inl ⟨0, by decide +kernel, rfl, rfl⟩
theorem r_5_countJoined_1 : RL M_X5_countJoined 1 1 2 := Or.inl ⟨1, by decide +kernel, rfl, rfl⟩
theorem r_5_countJoined_2 : RKv M_X5_countJoined M_X5_isRow 2 1 5 5 := ⟨69, by decide +kernel, wd_m5_69, ok_M_X5_isRow, wd_s5_isRow, rfl⟩
theorem r_5_countJoined_5 : RB M_X5_countJoined 5 (.ifCond .ne) 10 8 := ⟨5, by decide +kernel, rfl, rfl⟩
theorem r_5_countJoined_10 : RA M_X5_countJoined 10 0 11 := Or.inl ⟨0, by decide +kernel, rfl, rfl⟩
theorem r_5_countJoined_11 : RKv M_X5_countJoined M_X5_groupAll 11 0 5 14 := ⟨98, by decide +kernel, wd_m5_98, ok_M_X5_groupAll, wd_s5_groupAll, rfl⟩
theorem r_5_countJoined_14 : RC M_X5_countJoined 14 0 15 := ⟨⟨by decide, by decide⟩, Or.inl ⟨by decide +kernel, rfl⟩⟩
theorem r_5_countJoined_15 : RS M_X5_countJoined 15 2 16 := ⟨by decide, Or.inl ⟨2, by decide +kernel, rfl, rfl⟩⟩
theorem r_5_countJoined_16 : RC M_X5_countJoined 16 0 17 := ⟨⟨by decide, by decide⟩, Or.inl ⟨by decide +kernel, rfl⟩⟩
theorem r_5_countJoined_17 : RS M_X5_countJoined 17 3 18 := ⟨by decide, Or.inl ⟨3, by decide +kernel, rfl, rfl⟩⟩
theorem r_5_countJoined_18 : RL M_X5_countJoined 18 3 19 := Or.inl ⟨3, by decide +kernel, rfl, rfl⟩
theorem r_5_countJoined_19 : RA M_X5_countJoined 19 0 20 := Or.inl ⟨0, by decide +kernel, rfl, rfl⟩
theorem r_5_countJoined_20 : RG M_X5_countJoined 20 5 0 23 := ⟨54, _, by decide +kernel, rfl, by decide, wd_f5_54, rfl, rfl⟩
theorem r_5_countJoined_23 : RB M_X5_countJoined 23 (.if_icmp .ge) 50 26 := ⟨27, by decide +kernel, rfl, rfl⟩
theorem r_5_countJoined_50 : RL M_X5_countJoined 50 2 51 := Or.inl ⟨2, by decide +kernel, rfl, rfl⟩
theorem r_5_countJoined_51 : RW M_X5_countJoined 51 .ireturn 52 1 := ⟨by decide +kernel, rfl⟩
theorem r_5_countJoined_26 : RA M_X5_countJoined 26 0 27 := Or.inl ⟨0, by decide +kernel, rfl, rfl⟩
theorem r_5_countJoined_27 : RG M_X5_countJoined 27 5 7 30 := ⟨33, _, by decide +kernel, rfl, by decide, wd_f5_33, rfl, rfl⟩
theorem r_5_countJoined_30 : RL M_X5_countJoined 30 3 31 := Or.inl ⟨3, by decide +kernel, rfl, rfl⟩
theorem r_5_countJoined_31 : RW M_X5_countJoined 31 .iaload 32 1 := ⟨by decide +kernel, rfl⟩
theorem r_5_countJoined_32 : RA M_X5_countJoined 32 0 33 := Or.inl ⟨0, by decide +kernel, rfl, rfl⟩
theorem r_5_countJoined_33 : RG M_X5_countJoined 33 5 7 36 := ⟨33, _, by decide +kernel, rfl, by decide, wd_f5_33, rfl, rfl⟩
theorem r_5_countJoined_36 : RL M_X5_countJoined 36 1 37 := Or.inl ⟨1, by decide +kernel, rfl, rfl⟩
theorem r_5_countJoined_37 : RW M_X5_countJoined 37 .iaload 38 1 := ⟨by decide +kernel, rfl⟩
theorem r_5_countJoined_38 : RB M_X5_countJoined 38 (.if_icmp .ne) 44 41 := ⟨6, by decide +kernel, rfl, rfl⟩
theorem r_5_countJoined_44 : RI M_X5_countJoined 44 3 1 47 := ⟨by decide, by decide +kernel, rfl⟩
theorem r_5_countJoined_47 : RB M_X5_countJoined 47 .goto 18 50 := ⟨(-29), by decide +kernel, rfl, rfl⟩
theorem r_5_countJoined_41 : RI M_X5_countJoined 41 2 1 44 := ⟨by decide, by decide +kernel, rfl⟩
theorem r_5_countJoined_8 : RC M_X5_countJoined 8 (-1) 9 := ⟨⟨by decide, by decide⟩, Or.inl ⟨by decide +kernel, rfl⟩⟩
theorem r_5_countJoined_9 : RW M_X5_countJoined 9 .ireturn 10 1 := ⟨by decide +kernel, rfl⟩
theorem r_5_tellClash_0 : RL M_X5_tellClash 0 1 1 := Or.inl ⟨1, by decide +kernel, rfl, rfl⟩
theorem r_5_tellClash_1 : RC M_X5_tellClash 1 0 2 := ⟨⟨by decide, by decide⟩, Or.inl ⟨by decide +kernel, rfl⟩⟩
theorem r_5_tellClash_2 : RC M_X5_tellClash 2 2 3 := ⟨⟨by decide, by decide⟩, Or.inl ⟨by decide +kernel, rfl⟩⟩
theorem r_5_tellClash_3 : RKs M_X5_tellClash M_X11_within 3 3 6 := ⟨65, by decide +kernel, Or.inr (by decide +kernel), ok_M_X11_within, rfl⟩
theorem r_5_tellClash_6 : RB M_X5_tellClash 6 (.ifCond .ne) 11 9 := ⟨5, by decide +kernel, rfl, rfl⟩
theorem r_5_tellClash_11 : RA M_X5_tellClash 11 0 12 := Or.inl ⟨0, by decide +kernel, rfl, rfl⟩
theorem r_5_tellClash_12 : RKv M_X5_tellClash M_X5_groupAll 12 0 5 15 := ⟨98, by decide +kernel, wd_m5_98, ok_M_X5_groupAll, wd_s5_groupAll, rfl⟩
theorem r_5_tellClash_15 : RC M_X5_tellClash 15 0 16 := ⟨⟨by decide, by decide⟩, Or.inl ⟨by decide +kernel, rfl⟩⟩
theorem r_5_tellClash_16 : RS M_X5_tellClash 16 2 17 := ⟨by decide, Or.inl ⟨2, by decide +kernel, rfl, rfl⟩⟩
theorem r_5_tellClash_17 : RC M_X5_tellClash 17 0 18 := ⟨⟨by decide, by decide⟩, Or.inl ⟨by decide +kernel, rfl⟩⟩
theorem r_5_tellClash_18 : RS M_X5_tellClash 18 3 19 := ⟨by decide, Or.inl ⟨3, by decide +kernel, rfl, rfl⟩⟩
theorem r_5_tellClash_19 : RL M_X5_tellClash 19 3 20 := Or.inl ⟨3, by decide +kernel, rfl, rfl⟩
theorem r_5_tellClash_20 : RA M_X5_tellClash 20 0 21 := Or.inl ⟨0, by decide +kernel, rfl, rfl⟩
theorem r_5_tellClash_21 : RG M_X5_tellClash 21 5 0 24 := ⟨54, _, by decide +kernel, rfl, by decide, wd_f5_54, rfl, rfl⟩
theorem r_5_tellClash_24 : RB M_X5_tellClash 24 (.if_icmp .ge) 98 27 := ⟨74, by decide +kernel, rfl, rfl⟩
theorem r_5_tellClash_98 : RL M_X5_tellClash 98 1 99 := Or.inl ⟨1, by decide +kernel, rfl, rfl⟩
theorem r_5_tellClash_99 : RB M_X5_tellClash 99 (.ifCond .ne) 106 102 := ⟨7, by decide +kernel, rfl, rfl⟩
theorem r_5_tellClash_106 : RC M_X5_tellClash 106 (-4) 108 := ⟨⟨by decide, by decide⟩, Or.inr (Or.inl ⟨by decide +kernel, by decide, rfl⟩)⟩
theorem r_5_tellClash_108 : RW M_X5_tellClash 108 .ireturn 109 1 := ⟨by decide +kernel, rfl⟩
theorem r_5_tellClash_102 : RL M_X5_tellClash 102 2 103 := Or.inl ⟨2, by decide +kernel, rfl, rfl⟩
theorem r_5_tellClash_103 : RB M_X5_tellClash 103 .goto 108 106 := ⟨5, by decide +kernel, rfl, rfl⟩
theorem r_5_tellClash_27 : RL M_X5_tellClash 27 3 28 := Or.inl ⟨3, by decide +kernel, rfl, rfl⟩
theorem r_5_tellClash_28 : RC M_X5_tellClash 28 1 29 := ⟨⟨by decide, by decide⟩, Or.inl ⟨by decide +kernel, rfl⟩⟩
theorem r_5_tellClash_29 : RW M_X5_tellClash 29 .iadd 30 1 := ⟨by decide +kernel, rfl⟩
theorem r_5_tellClash_30 : RS M_X5_tellClash 30 4 32 := ⟨by decide, Or.inr ⟨by decide +kernel, rfl⟩⟩
theorem r_5_tellClash_32 : RL M_X5_tellClash 32 4 34 := Or.inr ⟨by decide +kernel, rfl⟩
theorem r_5_tellClash_34 : RA M_X5_tellClash 34 0 35 := Or.inl ⟨0, by decide +kernel, rfl, rfl⟩
theorem r_5_tellClash_35 : RG M_X5_tellClash 35 5 0 38 := ⟨54, _, by decide +kernel, rfl, by decide, wd_f5_54, rfl, rfl⟩
theorem r_5_tellClash_38 : RB M_X5_tellClash 38 (.if_icmp .ge) 92 41 := ⟨54, by decide +kernel, rfl, rfl⟩
theorem r_5_tellClash_92 : RI M_X5_tellClash 92 3 1 95 := ⟨by decide, by decide +kernel, rfl⟩
theorem r_5_tellClash_95 : RB M_X5_tellClash 95 .goto 19 98 := ⟨(-76), by decide +kernel, rfl, rfl⟩
theorem r_5_tellClash_41 : RA M_X5_tellClash 41 0 42 := Or.inl ⟨0, by decide +kernel, rfl, rfl⟩
theorem r_5_tellClash_42 : RG M_X5_tellClash 42 5 7 45 := ⟨33, _, by decide +kernel, rfl, by decide, wd_f5_33, rfl, rfl⟩
theorem r_5_tellClash_45 : RL M_X5_tellClash 45 3 46 := Or.inl ⟨3, by decide +kernel, rfl, rfl⟩
theorem r_5_tellClash_46 : RW M_X5_tellClash 46 .iaload 47 1 := ⟨by decide +kernel, rfl⟩
theorem r_5_tellClash_47 : RA M_X5_tellClash 47 0 48 := Or.inl ⟨0, by decide +kernel, rfl, rfl⟩
theorem r_5_tellClash_48 : RG M_X5_tellClash 48 5 7 51 := ⟨33, _, by decide +kernel, rfl, by decide, wd_f5_33, rfl, rfl⟩
theorem r_5_tellClash_51 : RL M_X5_tellClash 51 4 53 := Or.inr ⟨by decide +kernel, rfl⟩
theorem r_5_tellClash_53 : RW M_X5_tellClash 53 .iaload 54 1 := ⟨by decide +kernel, rfl⟩
theorem r_5_tellClash_54 : RB M_X5_tellClash 54 (.if_icmp .ne) 86 57 := ⟨32, by decide +kernel, rfl, rfl⟩
theorem r_5_tellClash_86 : RI M_X5_tellClash 86 4 1 89 := ⟨by decide, by decide +kernel, rfl⟩
theorem r_5_tellClash_89 : RB M_X5_tellClash 89 .goto 32 92 := ⟨(-57), by decide +kernel, rfl, rfl⟩
theorem r_5_tellClash_57 : RA M_X5_tellClash 57 0 58 := Or.inl ⟨0, by decide +kernel, rfl, rfl⟩
theorem r_5_tellClash_58 : RL M_X5_tellClash 58 3 59 := Or.inl ⟨3, by decide +kernel, rfl, rfl⟩
theorem r_5_tellClash_59 : RL M_X5_tellClash 59 4 61 := Or.inr ⟨by decide +kernel, rfl⟩
theorem r_5_tellClash_61 : RKv M_X5_tellClash M_X5_mustBeApart 61 2 5 64 := ⟨101, by decide +kernel, wd_m5_101, ok_M_X5_mustBeApart, wd_s5_mustBeApart, rfl⟩
theorem r_5_tellClash_64 : RB M_X5_tellClash 64 (.ifCond .eq) 86 67 := ⟨22, by decide +kernel, rfl, rfl⟩
theorem r_5_tellClash_67 : RL M_X5_tellClash 67 1 68 := Or.inl ⟨1, by decide +kernel, rfl, rfl⟩
theorem r_5_tellClash_68 : RB M_X5_tellClash 68 (.ifCond .eq) 83 71 := ⟨15, by decide +kernel, rfl, rfl⟩
theorem r_5_tellClash_83 : RI M_X5_tellClash 83 2 1 86 := ⟨by decide, by decide +kernel, rfl⟩
theorem r_5_tellClash_71 : RL M_X5_tellClash 71 1 72 := Or.inl ⟨1, by decide +kernel, rfl, rfl⟩
theorem r_5_tellClash_72 : RC M_X5_tellClash 72 1 73 := ⟨⟨by decide, by decide⟩, Or.inl ⟨by decide +kernel, rfl⟩⟩
theorem r_5_tellClash_73 : RB M_X5_tellClash 73 (.if_icmp .ne) 80 76 := ⟨7, by decide +kernel, rfl, rfl⟩
theorem r_5_tellClash_80 : RL M_X5_tellClash 80 4 82 := Or.inr ⟨by decide +kernel, rfl⟩
theorem r_5_tellClash_82 : RW M_X5_tellClash 82 .ireturn 83 1 := ⟨by decide +kernel, rfl⟩
theorem r_5_tellClash_76 : RL M_X5_tellClash 76 3 77 := Or.inl ⟨3, by decide +kernel, rfl, rfl⟩
theorem r_5_tellClash_77 : RB M_X5_tellClash 77 .goto 82 80 := ⟨5, by decide +kernel, rfl, rfl⟩
theorem r_5_tellClash_9 : RC M_X5_tellClash 9 (-1) 10 := ⟨⟨by decide, by decide⟩, Or.inl ⟨by decide +kernel, rfl⟩⟩
theorem r_5_tellClash_10 : RW M_X5_tellClash 10 .ireturn 11 1 := ⟨by decide +kernel, rfl⟩
theorem r_12_findJoined_0 : RC M_X12_findJoined 0 0 1 := ⟨⟨by decide, by decide⟩, Or.inl ⟨by decide +kernel, rfl⟩⟩
theorem r_12_findJoined_1 : RS M_X12_findJoined 1 2 2 := ⟨by decide, Or.inl ⟨2, by decide +kernel, rfl, rfl⟩⟩
theorem r_12_findJoined_2 : RL M_X12_findJoined 2 2 3 := Or.inl ⟨2, by decide +kernel, rfl, rfl⟩
theorem r_12_findJoined_3 : RA M_X12_findJoined 3 0 4 := Or.inl ⟨0, by decide +kernel, rfl, rfl⟩
theorem r_12_findJoined_4 : RG M_X12_findJoined 4 12 55 7 := ⟨396, _, by decide +kernel, rfl, by decide, wd_f12_396, rfl, rfl⟩
theorem r_12_findJoined_7 : RB M_X12_findJoined 7 (.if_icmp .ge) 32 10 := ⟨25, by decide +kernel, rfl, rfl⟩
theorem r_12_findJoined_32 : RC M_X12_findJoined 32 1 33 := ⟨⟨by decide, by decide⟩, Or.inl ⟨by decide +kernel, rfl⟩⟩
theorem r_12_findJoined_33 : RS M_X12_findJoined 33 2 34 := ⟨by decide, Or.inl ⟨2, by decide +kernel, rfl, rfl⟩⟩
theorem r_12_findJoined_34 : RL M_X12_findJoined 34 2 35 := Or.inl ⟨2, by decide +kernel, rfl, rfl⟩
theorem r_12_findJoined_35 : RB M_X12_findJoined 35 (.ifCond .eq) 133 38 := ⟨98, by decide +kernel, rfl, rfl⟩
theorem r_12_findJoined_133 : RW M_X12_findJoined 133 .return_ 134 1 := ⟨by decide +kernel, rfl⟩
theorem r_12_findJoined_38 : RC M_X12_findJoined 38 0 39 := ⟨⟨by decide, by decide⟩, Or.inl ⟨by decide +kernel, rfl⟩⟩
theorem r_12_findJoined_39 : RS M_X12_findJoined 39 2 40 := ⟨by decide, Or.inl ⟨2, by decide +kernel, rfl, rfl⟩⟩
theorem r_12_findJoined_40 : RC M_X12_findJoined 40 0 41 := ⟨⟨by decide, by decide⟩, Or.inl ⟨by decide +kernel, rfl⟩⟩
theorem r_12_findJoined_41 : RS M_X12_findJoined 41 3 42 := ⟨by decide, Or.inl ⟨3, by decide +kernel, rfl, rfl⟩⟩
theorem r_12_findJoined_42 : RL M_X12_findJoined 42 3 43 := Or.inl ⟨3, by decide +kernel, rfl, rfl⟩
theorem r_12_findJoined_43 : RA M_X12_findJoined 43 0 44 := Or.inl ⟨0, by decide +kernel, rfl, rfl⟩
theorem r_12_findJoined_44 : RG M_X12_findJoined 44 12 55 47 := ⟨396, _, by decide +kernel, rfl, by decide, wd_f12_396, rfl, rfl⟩
theorem r_12_findJoined_47 : RB M_X12_findJoined 47 (.if_icmp .ge) 130 50 := ⟨83, by decide +kernel, rfl, rfl⟩
theorem r_12_findJoined_130 : RB M_X12_findJoined 130 .goto 34 133 := ⟨(-96), by decide +kernel, rfl, rfl⟩
theorem r_12_findJoined_50 : RC M_X12_findJoined 50 0 51 := ⟨⟨by decide, by decide⟩, Or.inl ⟨by decide +kernel, rfl⟩⟩
theorem r_12_findJoined_51 : RS M_X12_findJoined 51 4 53 := ⟨by decide, Or.inr ⟨by decide +kernel, rfl⟩⟩
theorem r_12_findJoined_53 : RL M_X12_findJoined 53 4 55 := Or.inr ⟨by decide +kernel, rfl⟩
theorem r_12_findJoined_55 : RA M_X12_findJoined 55 0 56 := Or.inl ⟨0, by decide +kernel, rfl, rfl⟩
theorem r_12_findJoined_56 : RG M_X12_findJoined 56 12 55 59 := ⟨396, _, by decide +kernel, rfl, by decide, wd_f12_396, rfl, rfl⟩
theorem r_12_findJoined_59 : RB M_X12_findJoined 59 (.if_icmp .ge) 124 62 := ⟨65, by decide +kernel, rfl, rfl⟩
theorem r_12_findJoined_124 : RI M_X12_findJoined 124 3 1 127 := ⟨by decide, by decide +kernel, rfl⟩
theorem r_12_findJoined_127 : RB M_X12_findJoined 127 .goto 42 130 := ⟨(-85), by decide +kernel, rfl, rfl⟩
theorem r_12_findJoined_62 : RA M_X12_findJoined 62 0 63 := Or.inl ⟨0, by decide +kernel, rfl, rfl⟩
theorem r_12_findJoined_63 : RG M_X12_findJoined 63 12 59 66 := ⟨138, _, by decide +kernel, rfl, by decide, wd_f12_138, rfl, rfl⟩
theorem r_12_findJoined_66 : RL M_X12_findJoined 66 3 67 := Or.inl ⟨3, by decide +kernel, rfl, rfl⟩
theorem r_12_findJoined_67 : RW M_X12_findJoined 67 .baload 68 1 := ⟨by decide +kernel, rfl⟩
theorem r_12_findJoined_68 : RB M_X12_findJoined 68 (.ifCond .eq) 118 71 := ⟨50, by decide +kernel, rfl, rfl⟩
theorem r_12_findJoined_118 : RI M_X12_findJoined 118 4 1 121 := ⟨by decide, by decide +kernel, rfl⟩
theorem r_12_findJoined_121 : RB M_X12_findJoined 121 .goto 53 124 := ⟨(-68), by decide +kernel, rfl, rfl⟩
theorem r_12_findJoined_71 : RA M_X12_findJoined 71 0 72 := Or.inl ⟨0, by decide +kernel, rfl, rfl⟩
theorem r_12_findJoined_72 : RG M_X12_findJoined 72 12 59 75 := ⟨138, _, by decide +kernel, rfl, by decide, wd_f12_138, rfl, rfl⟩
theorem r_12_findJoined_75 : RL M_X12_findJoined 75 4 77 := Or.inr ⟨by decide +kernel, rfl⟩
theorem r_12_findJoined_77 : RW M_X12_findJoined 77 .baload 78 1 := ⟨by decide +kernel, rfl⟩
theorem r_12_findJoined_78 : RB M_X12_findJoined 78 (.ifCond .ne) 118 81 := ⟨40, by decide +kernel, rfl, rfl⟩
theorem r_12_findJoined_81 : RA M_X12_findJoined 81 0 82 := Or.inl ⟨0, by decide +kernel, rfl, rfl⟩
theorem r_12_findJoined_82 : RG M_X12_findJoined 82 12 51 85 := ⟨118, _, by decide +kernel, rfl, by decide, wd_f12_118, rfl, rfl⟩
theorem r_12_findJoined_85 : RL M_X12_findJoined 85 3 86 := Or.inl ⟨3, by decide +kernel, rfl, rfl⟩
theorem r_12_findJoined_86 : RW M_X12_findJoined 86 .iaload 87 1 := ⟨by decide +kernel, rfl⟩
theorem r_12_findJoined_87 : RA M_X12_findJoined 87 0 88 := Or.inl ⟨0, by decide +kernel, rfl, rfl⟩
theorem r_12_findJoined_88 : RG M_X12_findJoined 88 12 51 91 := ⟨118, _, by decide +kernel, rfl, by decide, wd_f12_118, rfl, rfl⟩
theorem r_12_findJoined_91 : RL M_X12_findJoined 91 4 93 := Or.inr ⟨by decide +kernel, rfl⟩
theorem r_12_findJoined_93 : RW M_X12_findJoined 93 .iaload 94 1 := ⟨by decide +kernel, rfl⟩
theorem r_12_findJoined_94 : RB M_X12_findJoined 94 (.if_icmp .eq) 118 97 := ⟨24, by decide +kernel, rfl, rfl⟩
theorem r_12_findJoined_97 : RA M_X12_findJoined 97 0 98 := Or.inl ⟨0, by decide +kernel, rfl, rfl⟩
theorem r_12_findJoined_98 : RL M_X12_findJoined 98 3 99 := Or.inl ⟨3, by decide +kernel, rfl, rfl⟩
theorem r_12_findJoined_99 : RL M_X12_findJoined 99 4 101 := Or.inr ⟨by decide +kernel, rfl⟩
theorem r_12_findJoined_101 : RKv M_X12_findJoined M_X12_sameOf 101 2 12 104 := ⟨418, by decide +kernel, wd_m12_418, ok_M_X12_sameOf, wd_s12_sameOf, rfl⟩
theorem r_12_findJoined_104 : RC M_X12_findJoined 104 2 105 := ⟨⟨by decide, by decide⟩, Or.inl ⟨by decide +kernel, rfl⟩⟩
theorem r_12_findJoined_105 : RB M_X12_findJoined 105 (.if_icmp .ne) 118 108 := ⟨13, by decide +kernel, rfl, rfl⟩
theorem r_12_findJoined_108 : RA M_X12_findJoined 108 0 109 := Or.inl ⟨0, by decide +kernel, rfl, rfl⟩
theorem r_12_findJoined_109 : RG M_X12_findJoined 109 12 59 112 := ⟨138, _, by decide +kernel, rfl, by decide, wd_f12_138, rfl, rfl⟩
theorem r_12_findJoined_112 : RL M_X12_findJoined 112 4 114 := Or.inr ⟨by decide +kernel, rfl⟩
theorem r_12_findJoined_114 : RC M_X12_findJoined 114 1 115 := ⟨⟨by decide, by decide⟩, Or.inl ⟨by decide +kernel, rfl⟩⟩
theorem r_12_findJoined_115 : RW M_X12_findJoined 115 .bastore 116 1 := ⟨by decide +kernel, rfl⟩
theorem r_12_findJoined_116 : RC M_X12_findJoined 116 1 117 := ⟨⟨by decide, by decide⟩, Or.inl ⟨by decide +kernel, rfl⟩⟩
theorem r_12_findJoined_117 : RS M_X12_findJoined 117 2 118 := ⟨by decide, Or.inl ⟨2, by decide +kernel, rfl, rfl⟩⟩
theorem r_12_findJoined_10 : RA M_X12_findJoined 10 0 11 := Or.inl ⟨0, by decide +kernel, rfl, rfl⟩
theorem r_12_findJoined_11 : RG M_X12_findJoined 11 12 59 14 := ⟨138, _, by decide +kernel, rfl, by decide, wd_f12_138, rfl, rfl⟩
theorem r_12_findJoined_14 : RL M_X12_findJoined 14 2 15 := Or.inl ⟨2, by decide +kernel, rfl, rfl⟩
theorem r_12_findJoined_15 : RL M_X12_findJoined 15 2 16 := Or.inl ⟨2, by decide +kernel, rfl, rfl⟩
theorem r_12_findJoined_16 : RL M_X12_findJoined 16 1 17 := Or.inl ⟨1, by decide +kernel, rfl, rfl⟩
theorem r_12_findJoined_17 : RB M_X12_findJoined 17 (.if_icmp .ne) 24 20 := ⟨7, by decide +kernel, rfl, rfl⟩
theorem r_12_findJoined_24 : RC M_X12_findJoined 24 0 25 := ⟨⟨by decide, by decide⟩, Or.inl ⟨by decide +kernel, rfl⟩⟩
theorem r_12_findJoined_25 : RW M_X12_findJoined 25 .bastore 26 1 := ⟨by decide +kernel, rfl⟩
theorem r_12_findJoined_26 : RI M_X12_findJoined 26 2 1 29 := ⟨by decide, by decide +kernel, rfl⟩
theorem r_12_findJoined_29 : RB M_X12_findJoined 29 .goto 2 32 := ⟨(-27), by decide +kernel, rfl, rfl⟩
theorem r_12_findJoined_20 : RC M_X12_findJoined 20 1 21 := ⟨⟨by decide, by decide⟩, Or.inl ⟨by decide +kernel, rfl⟩⟩
theorem r_12_findJoined_21 : RB M_X12_findJoined 21 .goto 25 24 := ⟨4, by decide +kernel, rfl, rfl⟩
theorem r_12_joined_0 : RA M_X12_joined 0 0 1 := Or.inl ⟨0, by decide +kernel, rfl, rfl⟩
theorem r_12_joined_1 : RL M_X12_joined 1 1 2 := Or.inl ⟨1, by decide +kernel, rfl, rfl⟩
theorem r_12_joined_2 : RKv M_X12_joined M_X12_isRow 2 1 12 5 := ⟨415, by decide +kernel, wd_m12_415, ok_M_X12_isRow, wd_s12_isRow, rfl⟩
theorem r_12_joined_5 : RB M_X12_joined 5 (.ifCond .ne) 10 8 := ⟨5, by decide +kernel, rfl, rfl⟩
theorem r_12_joined_10 : RA M_X12_joined 10 0 11 := Or.inl ⟨0, by decide +kernel, rfl, rfl⟩
theorem r_12_joined_11 : RL M_X12_joined 11 1 12 := Or.inl ⟨1, by decide +kernel, rfl, rfl⟩
theorem r_12_joined_12 : RKv M_X12_joined M_X12_findJoined 12 1 12 15 := ⟨421, by decide +kernel, wd_m12_421, ok_M_X12_findJoined, wd_s12_findJoined, rfl⟩
theorem r_12_joined_15 : RC M_X12_joined 15 0 16 := ⟨⟨by decide, by decide⟩, Or.inl ⟨by decide +kernel, rfl⟩⟩
theorem r_12_joined_16 : RS M_X12_joined 16 2 17 := ⟨by decide, Or.inl ⟨2, by decide +kernel, rfl, rfl⟩⟩
theorem r_12_joined_17 : RC M_X12_joined 17 0 18 := ⟨⟨by decide, by decide⟩, Or.inl ⟨by decide +kernel, rfl⟩⟩
theorem r_12_joined_18 : RS M_X12_joined 18 3 19 := ⟨by decide, Or.inl ⟨3, by decide +kernel, rfl, rfl⟩⟩
theorem r_12_joined_19 : RL M_X12_joined 19 3 20 := Or.inl ⟨3, by decide +kernel, rfl, rfl⟩
theorem r_12_joined_20 : RA M_X12_joined 20 0 21 := Or.inl ⟨0, by decide +kernel, rfl, rfl⟩
theorem r_12_joined_21 : RG M_X12_joined 21 12 55 24 := ⟨396, _, by decide +kernel, rfl, by decide, wd_f12_396, rfl, rfl⟩
theorem r_12_joined_24 : RB M_X12_joined 24 (.if_icmp .ge) 50 27 := ⟨26, by decide +kernel, rfl, rfl⟩
theorem r_12_joined_50 : RL M_X12_joined 50 2 51 := Or.inl ⟨2, by decide +kernel, rfl, rfl⟩
theorem r_12_joined_51 : RW M_X12_joined 51 .ireturn 52 1 := ⟨by decide +kernel, rfl⟩
theorem r_12_joined_27 : RL M_X12_joined 27 2 28 := Or.inl ⟨2, by decide +kernel, rfl, rfl⟩
theorem r_12_joined_28 : RA M_X12_joined 28 0 29 := Or.inl ⟨0, by decide +kernel, rfl, rfl⟩
theorem r_12_joined_29 : RG M_X12_joined 29 12 59 32 := ⟨138, _, by decide +kernel, rfl, by decide, wd_f12_138, rfl, rfl⟩
theorem r_12_joined_32 : RL M_X12_joined 32 3 33 := Or.inl ⟨3, by decide +kernel, rfl, rfl⟩
theorem r_12_joined_33 : RW M_X12_joined 33 .baload 34 1 := ⟨by decide +kernel, rfl⟩
theorem r_12_joined_34 : RB M_X12_joined 34 (.ifCond .eq) 41 37 := ⟨7, by decide +kernel, rfl, rfl⟩
theorem r_12_joined_41 : RC M_X12_joined 41 0 42 := ⟨⟨by decide, by decide⟩, Or.inl ⟨by decide +kernel, rfl⟩⟩
theorem r_12_joined_42 : RW M_X12_joined 42 .iadd 43 1 := ⟨by decide +kernel, rfl⟩
theorem r_12_joined_43 : RS M_X12_joined 43 2 44 := ⟨by decide, Or.inl ⟨2, by decide +kernel, rfl, rfl⟩⟩
theorem r_12_joined_44 : RI M_X12_joined 44 3 1 47 := ⟨by decide, by decide +kernel, rfl⟩
theorem r_12_joined_47 : RB M_X12_joined 47 .goto 19 50 := ⟨(-28), by decide +kernel, rfl, rfl⟩
theorem r_12_joined_37 : RC M_X12_joined 37 1 38 := ⟨⟨by decide, by decide⟩, Or.inl ⟨by decide +kernel, rfl⟩⟩
theorem r_12_joined_38 : RB M_X12_joined 38 .goto 42 41 := ⟨4, by decide +kernel, rfl, rfl⟩
theorem r_12_joined_8 : RC M_X12_joined 8 (-1) 9 := ⟨⟨by decide, by decide⟩, Or.inl ⟨by decide +kernel, rfl⟩⟩
theorem r_12_joined_9 : RW M_X12_joined 9 .ireturn 10 1 := ⟨by decide +kernel, rfl⟩
theorem r_12_clash_0 : RL M_X12_clash 0 1 1 := Or.inl ⟨1, by decide +kernel, rfl, rfl⟩
theorem r_12_clash_1 : RC M_X12_clash 1 0 2 := ⟨⟨by decide, by decide⟩, Or.inl ⟨by decide +kernel, rfl⟩⟩
theorem r_12_clash_2 : RC M_X12_clash 2 2 3 := ⟨⟨by decide, by decide⟩, Or.inl ⟨by decide +kernel, rfl⟩⟩
theorem r_12_clash_3 : RKs M_X12_clash M_X12_within 3 3 6 := ⟨240, by decide +kernel, Or.inl wd_m12_240, ok_M_X12_within, rfl⟩
theorem r_12_clash_6 : RB M_X12_clash 6 (.ifCond .ne) 11 9 := ⟨5, by decide +kernel, rfl, rfl⟩
theorem r_12_clash_11 : RC M_X12_clash 11 0 12 := ⟨⟨by decide, by decide⟩, Or.inl ⟨by decide +kernel, rfl⟩⟩
theorem r_12_clash_12 : RS M_X12_clash 12 2 13 := ⟨by decide, Or.inl ⟨2, by decide +kernel, rfl, rfl⟩⟩
theorem r_12_clash_13 : RC M_X12_clash 13 (-4) 15 := ⟨⟨by decide, by decide⟩, Or.inr (Or.inl ⟨by decide +kernel, by decide, rfl⟩)⟩
theorem r_12_clash_15 : RS M_X12_clash 15 3 16 := ⟨by decide, Or.inl ⟨3, by decide +kernel, rfl, rfl⟩⟩
theorem r_12_clash_16 : RC M_X12_clash 16 (-4) 18 := ⟨⟨by decide, by decide⟩, Or.inr (Or.inl ⟨by decide +kernel, by decide, rfl⟩)⟩
theorem r_12_clash_18 : RS M_X12_clash 18 4 20 := ⟨by decide, Or.inr ⟨by decide +kernel, rfl⟩⟩
theorem r_12_clash_20 : RC M_X12_clash 20 0 21 := ⟨⟨by decide, by decide⟩, Or.inl ⟨by decide +kernel, rfl⟩⟩
theorem r_12_clash_21 : RS M_X12_clash 21 5 23 := ⟨by decide, Or.inr ⟨by decide +kernel, rfl⟩⟩
theorem r_12_clash_23 : RL M_X12_clash 23 5 25 := Or.inr ⟨by decide +kernel, rfl⟩
theorem r_12_clash_25 : RA M_X12_clash 25 0 26 := Or.inl ⟨0, by decide +kernel, rfl, rfl⟩
theorem r_12_clash_26 : RG M_X12_clash 26 12 55 29 := ⟨396, _, by decide +kernel, rfl, by decide, wd_f12_396, rfl, rfl⟩
theorem r_12_clash_29 : RB M_X12_clash 29 (.if_icmp .ge) 113 32 := ⟨84, by decide +kernel, rfl, rfl⟩
theorem r_12_clash_113 : RL M_X12_clash 113 1 114 := Or.inl ⟨1, by decide +kernel, rfl, rfl⟩
theorem r_12_clash_114 : RB M_X12_clash 114 (.ifCond .ne) 121 117 := ⟨7, by decide +kernel, rfl, rfl⟩
theorem r_12_clash_121 : RL M_X12_clash 121 1 122 := Or.inl ⟨1, by decide +kernel, rfl, rfl⟩
theorem r_12_clash_122 : RC M_X12_clash 122 1 123 := ⟨⟨by decide, by decide⟩, Or.inl ⟨by decide +kernel, rfl⟩⟩
theorem r_12_clash_123 : RB M_X12_clash 123 (.if_icmp .ne) 130 126 := ⟨7, by decide +kernel, rfl, rfl⟩
theorem r_12_clash_130 : RL M_X12_clash 130 4 132 := Or.inr ⟨by decide +kernel, rfl⟩
theorem r_12_clash_132 : RW M_X12_clash 132 .ireturn 133 1 := ⟨by decide +kernel, rfl⟩
theorem r_12_clash_126 : RL M_X12_clash 126 3 127 := Or.inl ⟨3, by decide +kernel, rfl, rfl⟩
theorem r_12_clash_127 : RB M_X12_clash 127 .goto 132 130 := ⟨5, by decide +kernel, rfl, rfl⟩
theorem r_12_clash_117 : RL M_X12_clash 117 2 118 := Or.inl ⟨2, by decide +kernel, rfl, rfl⟩
theorem r_12_clash_118 : RB M_X12_clash 118 .goto 132 121 := ⟨14, by decide +kernel, rfl, rfl⟩
theorem r_12_clash_32 : RA M_X12_clash 32 0 33 := Or.inl ⟨0, by decide +kernel, rfl, rfl⟩
theorem r_12_clash_33 : RL M_X12_clash 33 5 35 := Or.inr ⟨by decide +kernel, rfl⟩
theorem r_12_clash_35 : RKv M_X12_clash M_X12_findJoined 35 1 12 38 := ⟨421, by decide +kernel, wd_m12_421, ok_M_X12_findJoined, wd_s12_findJoined, rfl⟩
theorem r_12_clash_38 : RL M_X12_clash 38 5 40 := Or.inr ⟨by decide +kernel, rfl⟩
theorem r_12_clash_40 : RC M_X12_clash 40 1 41 := ⟨⟨by decide, by decide⟩, Or.inl ⟨by decide +kernel, rfl⟩⟩
theorem r_12_clash_41 : RW M_X12_clash 41 .iadd 42 1 := ⟨by decide +kernel, rfl⟩
theorem r_12_clash_42 : RS M_X12_clash 42 6 44 := ⟨by decide, Or.inr ⟨by decide +kernel, rfl⟩⟩
theorem r_12_clash_44 : RL M_X12_clash 44 6 46 := Or.inr ⟨by decide +kernel, rfl⟩
theorem r_12_clash_46 : RA M_X12_clash 46 0 47 := Or.inl ⟨0, by decide +kernel, rfl, rfl⟩
theorem r_12_clash_47 : RG M_X12_clash 47 12 55 50 := ⟨396, _, by decide +kernel, rfl, by decide, wd_f12_396, rfl, rfl⟩
theorem r_12_clash_50 : RB M_X12_clash 50 (.if_icmp .ge) 107 53 := ⟨57, by decide +kernel, rfl, rfl⟩
theorem r_12_clash_107 : RI M_X12_clash 107 5 1 110 := ⟨by decide, by decide +kernel, rfl⟩
theorem r_12_clash_110 : RB M_X12_clash 110 .goto 23 113 := ⟨(-87), by decide +kernel, rfl, rfl⟩
theorem r_12_clash_53 : RA M_X12_clash 53 0 54 := Or.inl ⟨0, by decide +kernel, rfl, rfl⟩
theorem r_12_clash_54 : RG M_X12_clash 54 12 59 57 := ⟨138, _, by decide +kernel, rfl, by decide, wd_f12_138, rfl, rfl⟩
theorem r_12_clash_57 : RL M_X12_clash 57 6 59 := Or.inr ⟨by decide +kernel, rfl⟩
theorem r_12_clash_59 : RW M_X12_clash 59 .baload 60 1 := ⟨by decide +kernel, rfl⟩
theorem r_12_clash_60 : RB M_X12_clash 60 (.ifCond .eq) 101 63 := ⟨41, by decide +kernel, rfl, rfl⟩
theorem r_12_clash_101 : RI M_X12_clash 101 6 1 104 := ⟨by decide, by decide +kernel, rfl⟩
theorem r_12_clash_104 : RB M_X12_clash 104 .goto 44 107 := ⟨(-60), by decide +kernel, rfl, rfl⟩
theorem r_12_clash_63 : RA M_X12_clash 63 0 64 := Or.inl ⟨0, by decide +kernel, rfl, rfl⟩
theorem r_12_clash_64 : RL M_X12_clash 64 5 66 := Or.inr ⟨by decide +kernel, rfl⟩
theorem r_12_clash_66 : RL M_X12_clash 66 6 68 := Or.inr ⟨by decide +kernel, rfl⟩
theorem r_12_clash_68 : RKv M_X12_clash M_X12_mustBeApart 68 2 12 71 := ⟨425, by decide +kernel, wd_m12_425, ok_M_X12_mustBeApart, wd_s12_mustBeApart, rfl⟩
theorem r_12_clash_71 : RB M_X12_clash 71 (.ifCond .eq) 101 74 := ⟨30, by decide +kernel, rfl, rfl⟩
theorem r_12_clash_74 : RL M_X12_clash 74 2 75 := Or.inl ⟨2, by decide +kernel, rfl, rfl⟩
theorem r_12_clash_75 : RB M_X12_clash 75 (.ifCond .ne) 83 78 := ⟨8, by decide +kernel, rfl, rfl⟩
theorem r_12_clash_83 : RL M_X12_clash 83 3 84 := Or.inl ⟨3, by decide +kernel, rfl, rfl⟩
theorem r_12_clash_84 : RS M_X12_clash 84 3 85 := ⟨by decide, Or.inl ⟨3, by decide +kernel, rfl, rfl⟩⟩
theorem r_12_clash_85 : RL M_X12_clash 85 2 86 := Or.inl ⟨2, by decide +kernel, rfl, rfl⟩
theorem r_12_clash_86 : RB M_X12_clash 86 (.ifCond .ne) 94 89 := ⟨8, by decide +kernel, rfl, rfl⟩
theorem r_12_clash_94 : RL M_X12_clash 94 4 96 := Or.inr ⟨by decide +kernel, rfl⟩
theorem r_12_clash_96 : RS M_X12_clash 96 4 98 := ⟨by decide, Or.inr ⟨by decide +kernel, rfl⟩⟩
theorem r_12_clash_98 : RI M_X12_clash 98 2 1 101 := ⟨by decide, by decide +kernel, rfl⟩
theorem r_12_clash_89 : RL M_X12_clash 89 6 91 := Or.inr ⟨by decide +kernel, rfl⟩
theorem r_12_clash_91 : RB M_X12_clash 91 .goto 96 94 := ⟨5, by decide +kernel, rfl, rfl⟩
theorem r_12_clash_78 : RL M_X12_clash 78 5 80 := Or.inr ⟨by decide +kernel, rfl⟩
theorem r_12_clash_80 : RB M_X12_clash 80 .goto 84 83 := ⟨4, by decide +kernel, rfl, rfl⟩
theorem r_12_clash_9 : RC M_X12_clash 9 (-1) 10 := ⟨⟨by decide, by decide⟩, Or.inl ⟨by decide +kernel, rfl⟩⟩
theorem r_12_clash_10 : RW M_X12_clash 10 .ireturn 11 1 := ⟨by decide +kernel, rfl⟩
theorem r_11_joined_0 : RA M_X11_joined 0 0 1 := Or.inl ⟨0, by decide +kernel, rfl, rfl⟩
theorem r_11_joined_1 : RG M_X11_joined 1 11 4 4 := ⟨46, _, by decide +kernel, rfl, by decide, wd_f11_46, rfl, rfl⟩
theorem r_11_joined_4 : RL M_X11_joined 4 1 5 := Or.inl ⟨1, by decide +kernel, rfl, rfl⟩
theorem r_11_joined_5 : RKv M_X11_joined M_X5_countJoined 5 1 5 8 := ⟨169, by decide +kernel, wd_m11_169, ok_M_X5_countJoined, wd_s5_countJoined, rfl⟩
theorem r_11_joined_8 : RW M_X11_joined 8 .ireturn 9 1 := ⟨by decide +kernel, rfl⟩
theorem r_11_clash_0 : RA M_X11_clash 0 0 1 := Or.inl ⟨0, by decide +kernel, rfl, rfl⟩
theorem r_11_clash_1 : RG M_X11_clash 1 11 4 4 := ⟨46, _, by decide +kernel, rfl, by decide, wd_f11_46, rfl, rfl⟩
theorem r_11_clash_4 : RL M_X11_clash 4 1 5 := Or.inl ⟨1, by decide +kernel, rfl, rfl⟩
theorem r_11_clash_5 : RKv M_X11_clash M_X5_tellClash 5 1 5 8 := ⟨172, by decide +kernel, wd_m11_172, ok_M_X5_tellClash, wd_s5_tellClash, rfl⟩
theorem r_11_clash_8 : RW M_X11_clash 8 .ireturn 9 1 := ⟨by decide +kernel, rfl⟩
set_option maxRecDepth 10000 in
theorem sp_X5_groupFrom {l : Launch} {w : Wo} {d : Nat} {G : PH} {P : Option PV → PH → Prop} {f : Int} (hrw : 0 ≤ (gF G 5 0 0) ∧ (gF G 5 0 0) ≤ 100) (hrc : rowsC G) (hsy : symE (surC G) (gF G 5 0 0)) (hgw : GrW (surC G) (gF G 5 0 0) f (gA G 54 0)) (hP : ∀ F R, GrP (surC G) (gF G 5 0 0) f (gA G 54 0) F → P none (uA (uA G 54 0 (F)) 55 0 (R))) : PW l w M_X5_groupFrom (d + 4) 0 [some (vR 5 (0)), some (vI (f)), none, none, none] [] G P := by
  have hff := hgw.1
  refine pw_aload r_5_groupFrom_0 rfl ?_
  refine pw_getR r_5_groupFrom_1 fs_5_7 (by decide) ?_
  refine pw_iload r_5_groupFrom_4 rfl ?_
  refine pw_iload r_5_groupFrom_5 rfl ?_
  refine pw_iast r_5_groupFrom_6 sh54 (by omega) (by omega) ?_
  refine pw_aload r_5_groupFrom_7 rfl ?_
  refine pw_getR r_5_groupFrom_8 fs_5_8 (by decide) ?_
  refine pw_const r_5_groupFrom_11 ?_
  refine pw_iload r_5_groupFrom_12 rfl ?_
  refine pw_iast r_5_groupFrom_13 sh55 (by omega) (by omega) ?_
  refine pw_const r_5_groupFrom_14 ?_
  refine pw_istore (ls' := [some (vR 5 (0)), some (vI (f)), some (vI (1)), none, none]) r_5_groupFrom_15 rfl rfl ?_
  refine pw_const r_5_groupFrom_16 ?_
  refine pw_istore (ls' := [some (vR 5 (0)), some (vI (f)), some (vI (1)), some (vI (0)), none]) r_5_groupFrom_17 rfl rfl ?_
  have L18 : ∀ (nF : Nat) (i n : Int) (F R : Int → Int), (hi : 0 ≤ i ∧ i ≤ n) → (hb : BfI (surC G) (gF G 5 0 0) (gA G 54 0) f i 0 n F R) → ((gF G 5 0 0) - i).toNat < nF → PW l w M_X5_groupFrom (d + 4) 18 [some (vR 5 (0)), some (vI (f)), some (vI (n)), some (vI (i)), none] [] (uA (uA G 54 (0) (F)) 55 (0) (R)) P := by
    intro nF
    induction nF with
    | zero => intro _ _ _ _ _ _ hM; exact absurd hM (Nat.not_lt_zero _)
    | succ nF ih18 =>
      intro i n F R hi hb hM18
      have hn1 := hb.1
      refine pw_iload r_5_groupFrom_18 rfl ?_
      refine pw_iload r_5_groupFrom_19 rfl ?_
      refine pw_icmp_ge r_5_groupFrom_20 (fun h20 => ?_) (fun h20 => ?_)
      · skip
        refine pw_vret r_5_groupFrom_104 rfl (Nat.le_refl _) ⟨rfl, ?_⟩
        exact hP F R (BfI_end hsy hgw hb (by omega))
      · skip
        refine pw_iload r_5_groupFrom_23 rfl ?_
        refine pw_const r_5_groupFrom_24 ?_
        refine pw_icmp_ge r_5_groupFrom_26 (fun h26 => absurd h26 (by omega)) (fun h26 => ?_)
        refine pw_const r_5_groupFrom_29 ?_
        refine pw_istore (ls' := [some (vR 5 (0)), some (vI (f)), some (vI (n)), some (vI (i)), some (vI (0))]) r_5_groupFrom_30 rfl rfl ?_
        have L32 : ∀ (nF : Nat) (b n : Int) (F R : Int → Int), (hb0 : 0 ≤ b ∧ b ≤ (gF G 5 0 0)) → (hin : 0 ≤ i ∧ i < n) → (hB : BfI (surC G) (gF G 5 0 0) (gA G 54 0) f i b n F R) → ((gF G 5 0 0) - b).toNat < nF → PW l w M_X5_groupFrom (d + 4) 32 [some (vR 5 (0)), some (vI (f)), some (vI (n)), some (vI (i)), some (vI (b))] [] (uA (uA G 54 (0) (F)) 55 (0) (R)) P := by
          intro nF
          induction nF with
          | zero => intro _ _ _ _ _ _ _ hM; exact absurd hM (Nat.not_lt_zero _)
          | succ nF ih32 =>
            intro b n F R hb0 hin hB hM32
            have hn1 := hB.1
            have hRi := hB.2.2.2.1 i hin.1 hin.2
            refine pw_iload r_5_groupFrom_32 rfl ?_
            refine pw_aload r_5_groupFrom_34 rfl ?_
            refine pw_getIv (v := gF G 5 (0) 0) r_5_groupFrom_35 fs_5_0 (by decide) (by first | rfl | simp [gF_sF, gF_sA, gF_uA, gF_sD, gA_sF, gA_sA, gA_uA, gA_sD, gD_sF, gD_sA, gD_uA, gD_sD]) ?_
            refine pw_icmp_ge r_5_groupFrom_38 (fun h38 => ?_) (fun h38 => ?_)
            · skip
              refine pw_iinc (b := 0) (ls' := [some (vR 5 (0)), some (vI (f)), some (vI (n)), some (vI ((i + 1))), some (vI (b))]) r_5_groupFrom_98 rfl rfl (by omega) rfl ?_
              refine pw_goto r_5_groupFrom_101 ?_
              refine pw_weakL (ls' := [some (vR 5 (0)), some (vI (f)), some (vI (n)), some (vI ((i + 1))), none]) (⟨rfl, ⟨rfl, ⟨rfl, ⟨rfl, trivial⟩⟩⟩⟩) ?_
              exact ih18 ((i + 1)) (n) (F) (R) (by omega) (BfI_next hB (by omega) (by omega)) (by omega)
            · skip
              refine pw_aload r_5_groupFrom_41 rfl ?_
              refine pw_getR r_5_groupFrom_42 fs_5_7 (by decide) ?_
              refine pw_iload r_5_groupFrom_45 rfl ?_
              refine pw_ialdv (v := (F) (b)) r_5_groupFrom_47 sh54 (by omega) (by omega) (by first | rfl | simp [gF_sF, gF_sA, gF_uA, gF_sD, gA_sF, gA_sA, gA_uA, gA_sD, gD_sF, gD_sA, gD_uA, gD_sD]) ?_
              refine pw_const r_5_groupFrom_48 ?_
              refine pw_icmp_ne r_5_groupFrom_49 (fun h49 => ?_) (fun h49 => ?_)
              · skip
                refine pw_iinc (b := 0) (ls' := [some (vR 5 (0)), some (vI (f)), some (vI (n)), some (vI (i)), some (vI ((b + 1)))]) r_5_groupFrom_92 rfl rfl (by omega) rfl ?_
                refine pw_goto r_5_groupFrom_95 ?_
                exact ih32 ((b + 1)) (n) (F) (R) (by omega) (by omega) (by first | exact BfI_take hgw hB hin.1 hin.2 hb0.1 (by omega) (by omega) h70 | exact BfI_skip hB (Or.inl (by omega)) | exact BfI_skip hB (Or.inr h70)) (by omega)
              · skip
                have hfl := BfI_full hgw hB hb0.1 (by omega) (by omega)
                refine pw_iload r_5_groupFrom_52 rfl ?_
                refine pw_const r_5_groupFrom_53 ?_
                refine pw_icmp_ge r_5_groupFrom_55 (fun h55 => absurd h55 (by omega)) (fun h55 => ?_)
                refine pw_aload r_5_groupFrom_58 rfl ?_
                refine pw_aload r_5_groupFrom_59 rfl ?_
                refine pw_getR r_5_groupFrom_60 fs_5_8 (by decide) ?_
                refine pw_iload r_5_groupFrom_63 rfl ?_
                refine pw_ialdv (v := (R) (i)) r_5_groupFrom_64 sh55 (by omega) (by omega) (by first | rfl | simp [gF_sF, gF_sA, gF_uA, gF_sD, gA_sF, gA_sA, gA_uA, gA_sD, gD_sF, gD_sA, gD_uA, gD_sD]) ?_
                refine pw_iload r_5_groupFrom_65 rfl ?_
                refine pw_callV (av := [vI ((R) (i)), vI (b)]) (st := []) (ls0 := [some (vR 5 (0)), some (vI ((R) (i))), some (vI (b))]) r_5_groupFrom_67 rfl rfl rfl (Nat.le_refl _) ?_
                refine sp_X5_isSure (hrw) (hrc) (⟨hRi.1, hRi.2.1⟩) (⟨hb0.1, show b < (gF G 5 0 0) by omega⟩) ?_
                refine pw_if_eqB r_5_groupFrom_70 (fun h70 => ?_) (fun h70 => ?_)
                · skip
                  refine pw_iinc (b := 0) (ls' := [some (vR 5 (0)), some (vI (f)), some (vI (n)), some (vI (i)), some (vI ((b + 1)))]) r_5_groupFrom_92 rfl rfl (by omega) rfl ?_
                  refine pw_goto r_5_groupFrom_95 ?_
                  exact ih32 ((b + 1)) (n) (F) (R) (by omega) (by omega) (by first | exact BfI_take hgw hB hin.1 hin.2 hb0.1 (by omega) (by omega) h70 | exact BfI_skip hB (Or.inl (by omega)) | exact BfI_skip hB (Or.inr h70)) (by omega)
                · skip
                  refine pw_aload r_5_groupFrom_73 rfl ?_
                  refine pw_getR r_5_groupFrom_74 fs_5_7 (by decide) ?_
                  refine pw_iload r_5_groupFrom_77 rfl ?_
                  refine pw_iload r_5_groupFrom_79 rfl ?_
                  refine pw_iast r_5_groupFrom_80 sh54 (by omega) (by omega) ?_
                  refine pw_aload r_5_groupFrom_81 rfl ?_
                  refine pw_getR r_5_groupFrom_82 fs_5_8 (by decide) ?_
                  refine pw_iload r_5_groupFrom_85 rfl ?_
                  refine pw_iload r_5_groupFrom_86 rfl ?_
                  refine pw_iast r_5_groupFrom_88 sh55 (by omega) (by omega) ?_
                  refine pw_iinc (b := 0) (ls' := [some (vR 5 (0)), some (vI (f)), some (vI ((n + 1))), some (vI (i)), some (vI (b))]) r_5_groupFrom_89 rfl rfl (by omega) rfl ?_
                  refine pw_iinc (b := 0) (ls' := [some (vR 5 (0)), some (vI (f)), some (vI ((n + 1))), some (vI (i)), some (vI ((b + 1)))]) r_5_groupFrom_92 rfl rfl (by omega) rfl ?_
                  refine pw_goto r_5_groupFrom_95 ?_
                  refine pw_eqG (G' := uA (uA G 54 (0) ((upA F b f))) 55 (0) ((upA R n b))) (by first | rfl | (rw [uA_self]; done) | (rw [sA_uA]; done) | (rw [sA_eq]; done) | (simp (disch := decide) only [sA_uA, sA_uA_ne, uA_abs, uA_abs2, uA_uA]; done) | (simp (disch := decide) only [sA_eq, sA_uA, sA_uA_ne, uA_abs, uA_abs2, uA_uA]; done) | (refine PH_ext (fun _ _ _ => ?_) (fun _ _ _ => ?_) (fun _ _ _ => ?_) <;> simp only [gF_sF, gF_sA, gF_uA, gF_sD, gA_sF, gA_sA, gA_uA, gA_sD, gD_sF, gD_sA, gD_uA, gD_sD] <;> (repeat' split) <;> first | rfl | (exfalso; omega) | simp_all)) ?_
                  exact ih32 ((b + 1)) ((n + 1)) ((upA F b f)) ((upA R n b)) (by omega) (by omega) (by first | exact BfI_take hgw hB hin.1 hin.2 hb0.1 (by omega) (by omega) h70 | exact BfI_skip hB (Or.inl (by omega)) | exact BfI_skip hB (Or.inr h70)) (by omega)
        exact L32 _ (0) (n) (F) (R) (by omega) (by omega) (hb) (Nat.lt_succ_self _)
  refine pw_eqG (G' := uA (uA G 54 (0) ((upA (fun j => gA G 54 (0) j) f f))) 55 (0) ((upA (fun j => gA G 55 (0) j) 0 f))) (by refine PH_ext (fun _ _ _ => rfl) (fun c r i => ?_) (fun _ _ _ => rfl); simp only [gA_sA, gA_uA, upA_at]; (repeat' split) <;> first | rfl | omega | (exfalso; omega) | (simp_all; done)) ?_
  exact L18 _ (0) (1) ((upA (fun j => gA G 54 (0) j) f f)) ((upA (fun j => gA G 55 (0) j) 0 f)) (by omega) (BfI_0 hgw) (Nat.lt_succ_self _)
set_option maxRecDepth 10000 in
theorem sp_X5_groupAll {l : Launch} {w : Wo} {d : Nat} {G : PH} {P : Option PV → PH → Prop} (hrw : 0 ≤ (gF G 5 0 0) ∧ (gF G 5 0 0) ≤ 100) (hrc : rowsC G) (hsy : symE (surC G) (gF G 5 0 0)) (hP : ∀ F R, GrA (surC G) (gF G 5 0 0) F → P none (uA (uA G 54 0 (F)) 55 0 (R))) : PW l w M_X5_groupAll (d + 5) 0 [some (vR 5 (0)), none] [] G P := by
  refine pw_const r_5_groupAll_0 ?_
  refine pw_istore (ls' := [some (vR 5 (0)), some (vI (0))]) r_5_groupAll_1 rfl rfl ?_
  have L2 : ∀ (nF : Nat) (i : Int), (hi : 0 ≤ i ∧ i ≤ (gF G 5 0 0)) → ((gF G 5 0 0) - i).toNat < nF → PW l w M_X5_groupAll (d + 5) 2 [some (vR 5 (0)), some (vI (i))] [] (uA G 54 (0) ((filF (fun _ => True) (fun _ => -1) (gA G 54 0) i))) P := by
    intro nF
    induction nF with
    | zero => intro _ _ hM; exact absurd hM (Nat.not_lt_zero _)
    | succ nF ih2 =>
      intro i hi hM2
      refine pw_iload r_5_groupAll_2 rfl ?_
      refine pw_aload r_5_groupAll_3 rfl ?_
      refine pw_getIv (v := gF G 5 (0) 0) r_5_groupAll_4 fs_5_0 (by decide) (by first | rfl | simp [gF_sF, gF_sA, gF_uA, gF_sD, gA_sF, gA_sA, gA_uA, gA_sD, gD_sF, gD_sA, gD_uA, gD_sD]) ?_
      refine pw_icmp_ge r_5_groupAll_7 (fun h07 => ?_) (fun h07 => ?_)
      · skip
        refine pw_const r_5_groupAll_23 ?_
        refine pw_istore (ls' := [some (vR 5 (0)), some (vI (0))]) r_5_groupAll_24 rfl rfl ?_
        have L25 : ∀ (nF : Nat) (i : Int) (F R : Int → Int), (hi : 0 ≤ i ∧ i ≤ (gF G 5 0 0)) → (hF : GaI (surC G) (gF G 5 0 0) i F) → ((gF G 5 0 0) - i).toNat < nF → PW l w M_X5_groupAll (d + 5) 25 [some (vR 5 (0)), some (vI (i))] [] (uA (uA G 54 (0) (F)) 55 (0) (R)) P := by
          intro nF
          induction nF with
          | zero => intro _ _ _ _ _ hM; exact absurd hM (Nat.not_lt_zero _)
          | succ nF ih25 =>
            intro i F R hi hF hM25
            refine pw_iload r_5_groupAll_25 rfl ?_
            refine pw_aload r_5_groupAll_26 rfl ?_
            refine pw_getIv (v := gF G 5 (0) 0) r_5_groupAll_27 fs_5_0 (by decide) (by first | rfl | simp [gF_sF, gF_sA, gF_uA, gF_sD, gA_sF, gA_sA, gA_uA, gA_sD, gD_sF, gD_sA, gD_uA, gD_sD]) ?_
            refine pw_icmp_ge r_5_groupAll_30 (fun h30 => ?_) (fun h30 => ?_)
            · skip
              refine pw_vret r_5_groupAll_54 rfl (Nat.le_refl _) ⟨rfl, ?_⟩
              exact hP F R (GaI_end hsy hF (by omega))
            · skip
              refine pw_aload r_5_groupAll_33 rfl ?_
              refine pw_getR r_5_groupAll_34 fs_5_7 (by decide) ?_
              refine pw_iload r_5_groupAll_37 rfl ?_
              refine pw_ialdv (v := (F) (i)) r_5_groupAll_38 sh54 (by omega) (by omega) (by first | rfl | simp [gF_sF, gF_sA, gF_uA, gF_sD, gA_sF, gA_sA, gA_uA, gA_sD, gD_sF, gD_sA, gD_uA, gD_sD]) ?_
              refine pw_const r_5_groupAll_39 ?_
              refine pw_icmp_ne r_5_groupAll_40 (fun h40 => ?_) (fun h40 => ?_)
              · skip
                refine pw_iinc (b := 0) (ls' := [some (vR 5 (0)), some (vI ((i + 1)))]) r_5_groupAll_48 rfl rfl (by omega) rfl ?_
                refine pw_goto r_5_groupAll_51 ?_
                exact ih25 ((i + 1)) (F) (R) (by omega) (by first | exact GaI_take hsy hF hi.1 (by omega) hp | exact GaI_skip hF (by omega)) (by omega)
              · skip
                refine pw_aload r_5_groupAll_43 rfl ?_
                refine pw_iload r_5_groupAll_44 rfl ?_
                refine pw_callV (av := [vI (i)]) (st := []) (ls0 := [some (vR 5 (0)), some (vI (i)), none, none, none]) r_5_groupAll_45 rfl rfl rfl (Nat.le_refl _) ?_
                refine sp_X5_groupFrom (hrw) (hrc) (hsy) (GaI_pre hF hi.1 (show i < (gF G 5 0 0) by omega) (show F i = -1 by omega)) ?_
                intro F1 R1 hp
                refine pw_iinc (b := 0) (ls' := [some (vR 5 (0)), some (vI ((i + 1)))]) r_5_groupAll_48 rfl rfl (by omega) rfl ?_
                refine pw_goto r_5_groupAll_51 ?_
                refine pw_eqG (G' := uA (uA G 54 (0) (F1)) 55 (0) (R1)) (by first | rfl | (rw [uA_self]; done) | (rw [sA_uA]; done) | (rw [sA_eq]; done) | (simp (disch := decide) only [sA_uA, sA_uA_ne, uA_abs, uA_abs2, uA_uA]; done) | (simp (disch := decide) only [sA_eq, sA_uA, sA_uA_ne, uA_abs, uA_abs2, uA_uA]; done) | (refine PH_ext (fun _ _ _ => ?_) (fun _ _ _ => ?_) (fun _ _ _ => ?_) <;> simp only [gF_sF, gF_sA, gF_uA, gF_sD, gA_sF, gA_sA, gA_uA, gA_sD, gD_sF, gD_sA, gD_uA, gD_sD] <;> (repeat' split) <;> first | rfl | (exfalso; omega) | simp_all)) ?_
                exact ih25 ((i + 1)) (F1) (R1) (by omega) (by first | exact GaI_take hsy hF hi.1 (by omega) hp | exact GaI_skip hF (by omega)) (by omega)
        refine pw_eqG (G' := uA (uA G 54 (0) ((filF (fun _ => True) (fun _ => -1) (gA G 54 0) i))) 55 (0) ((fun j => gA G 55 (0) j))) (by exact (uA_self _ 55 0).symm) ?_
        exact L25 _ (0) ((filF (fun _ => True) (fun _ => -1) (gA G 54 0) i)) ((fun j => gA G 55 (0) j)) (by omega) (GaI_0 (fun x x0 x1 => fil_t (q := fun _ => True) x0 (by omega) trivial)) (Nat.lt_succ_self _)
      · skip
        refine pw_aload r_5_groupAll_10 rfl ?_
        refine pw_getR r_5_groupAll_11 fs_5_7 (by decide) ?_
        refine pw_iload r_5_groupAll_14 rfl ?_
        refine pw_const r_5_groupAll_15 ?_
        refine pw_iast r_5_groupAll_16 sh54 (by omega) (by omega) ?_
        refine pw_iinc (b := 0) (ls' := [some (vR 5 (0)), some (vI ((i + 1)))]) r_5_groupAll_17 rfl rfl (by omega) rfl ?_
        refine pw_goto r_5_groupAll_20 ?_
        refine pw_eqG (G' := uA G 54 (0) ((filF (fun _ => True) (fun _ => -1) (gA G 54 0) (i + 1)))) (by rw [sA_uA, fil_s (q := fun _ => True) (v := fun _ => -1) hi.1 trivial rfl]) ?_
        exact ih2 ((i + 1)) (by omega) (by omega)
  refine pw_eqG (G' := uA G 54 (0) ((filF (fun _ => True) (fun _ => -1) (gA G 54 0) 0))) (by rw [fil_0]; exact (uA_self _ 54 0).symm) ?_
  exact L2 _ (0) (by omega) (Nat.lt_succ_self _)
set_option maxRecDepth 10000 in
theorem sp_X5_countJoined {l : Launch} {w : Wo} {d : Nat} {G : PH} {P : Option PV → PH → Prop} {r : Int} (hrw : 0 ≤ (gF G 5 0 0) ∧ (gF G 5 0 0) ≤ 100) (hrc : rowsC G) (hsy : symE (surC G) (gF G 5 0 0)) (h1 : ¬ (0 ≤ r ∧ r < (gF G 5 0 0)) → P (some (vI (-1))) G) (h2 : (0 ≤ r ∧ r < (gF G 5 0 0)) → ∀ F R, P (some (vI (cnt (fun k => Rch (surC G) (gF G 5 0 0) r k) (gF G 5 0 0)))) (uA (uA G 54 0 (F)) 55 0 (R))) : PW l w M_X5_countJoined (d + 6) 0 [some (vR 5 (0)), some (vI (r)), none, none] [] G P := by
  refine pw_aload r_5_countJoined_0 rfl ?_
  refine pw_iload r_5_countJoined_1 rfl ?_
  refine pw_callV (av := [vI (r)]) (st := []) (ls0 := [some (vR 5 (0)), some (vI (r))]) r_5_countJoined_2 rfl rfl rfl (Nat.le_refl _) ?_
  refine sp_X5_isRow (by first | assumption | exact hrw | omega) ?_
  refine pw_if_neB r_5_countJoined_5 (fun h05 => ?_) (fun h05 => ?_)
  · skip
    refine pw_aload r_5_countJoined_10 rfl ?_
    refine pw_callV (av := []) (st := []) (ls0 := [some (vR 5 (0)), none]) r_5_countJoined_11 rfl rfl rfl (Nat.le_refl _) ?_
    refine sp_X5_groupAll (by first | assumption | exact hrw | omega) (by first | assumption | exact hrc | omega) (by first | assumption | exact hsy | omega) ?_
    intro F R hG
    refine pw_const r_5_countJoined_14 ?_
    refine pw_istore (ls' := [some (vR 5 (0)), some (vI (r)), some (vI (0)), none]) r_5_countJoined_15 rfl rfl ?_
    refine pw_const r_5_countJoined_16 ?_
    refine pw_istore (ls' := [some (vR 5 (0)), some (vI (r)), some (vI (0)), some (vI (0))]) r_5_countJoined_17 rfl rfl ?_
    have L18 : ∀ (nF : Nat) (i n : Int), (hi : 0 ≤ i ∧ i ≤ (gF G 5 0 0)) → (hn : n = cnt (fun k => F k = F r) i) → ((gF G 5 0 0) - i).toNat < nF → PW l w M_X5_countJoined (d + 6) 18 [some (vR 5 (0)), some (vI (r)), some (vI (n)), some (vI (i))] [] (uA (uA G 54 (0) (F)) 55 (0) (R)) P := by
      intro nF
      induction nF with
      | zero => intro _ _ _ _ hM; exact absurd hM (Nat.not_lt_zero _)
      | succ nF ih18 =>
        intro i n hi hn hM18
        have hcl := cnt_le (fun k => F k = F r) hi.1
        refine pw_iload r_5_countJoined_18 rfl ?_
        refine pw_aload r_5_countJoined_19 rfl ?_
        refine pw_getIv (v := gF G 5 (0) 0) r_5_countJoined_20 fs_5_0 (by decide) (by first | rfl | simp [gF_sF, gF_sA, gF_uA, gF_sD, gA_sF, gA_sA, gA_uA, gA_sD, gD_sF, gD_sA, gD_uA, gD_sD]) ?_
        refine pw_icmp_ge r_5_countJoined_23 (fun h23 => ?_) (fun h23 => ?_)
        · skip
          refine pw_iload r_5_countJoined_50 rfl ?_
          refine pw_iret r_5_countJoined_51 rfl (Nat.le_refl _) ⟨rfl, ?_⟩
          have ei : i = (gF G 5 0 0) := by omega
          subst ei
          refine pe (h2 (by omega) F R) (hn.trans (cnt_congr fun k x y => ?_))
          exact Iff.trans ⟨fun z => z.symm, fun z => z.symm⟩ (hG r k (by omega) (by omega) x y)
        · skip
          refine pw_aload r_5_countJoined_26 rfl ?_
          refine pw_getR r_5_countJoined_27 fs_5_7 (by decide) ?_
          refine pw_iload r_5_countJoined_30 rfl ?_
          refine pw_ialdv (v := (F) (i)) r_5_countJoined_31 sh54 (by omega) (by omega) (by first | rfl | simp [gF_sF, gF_sA, gF_uA, gF_sD, gA_sF, gA_sA, gA_uA, gA_sD, gD_sF, gD_sA, gD_uA, gD_sD]) ?_
          refine pw_aload r_5_countJoined_32 rfl ?_
          refine pw_getR r_5_countJoined_33 fs_5_7 (by decide) ?_
          refine pw_iload r_5_countJoined_36 rfl ?_
          refine pw_ialdv (v := (F) (r)) r_5_countJoined_37 sh54 (by omega) (by omega) (by first | rfl | simp [gF_sF, gF_sA, gF_uA, gF_sD, gA_sF, gA_sA, gA_uA, gA_sD, gD_sF, gD_sA, gD_uA, gD_sD]) ?_
          refine pw_icmp_ne r_5_countJoined_38 (fun h38 => ?_) (fun h38 => ?_)
          · skip
            refine pw_iinc (b := 0) (ls' := [some (vR 5 (0)), some (vI (r)), some (vI (n)), some (vI ((i + 1)))]) r_5_countJoined_44 rfl rfl (by omega) rfl ?_
            refine pw_goto r_5_countJoined_47 ?_
            exact ih18 ((i + 1)) (n) (by omega) (by first | (rw [cnt_t hi.1 (show F i = F r by omega)]; omega) | (rw [cnt_f hi.1 (show ¬ F i = F r by omega)]; omega)) (by omega)
          · skip
            refine pw_iinc (b := 0) (ls' := [some (vR 5 (0)), some (vI (r)), some (vI ((n + 1))), some (vI (i))]) r_5_countJoined_41 rfl rfl (by omega) rfl ?_
            refine pw_iinc (b := 0) (ls' := [some (vR 5 (0)), some (vI (r)), some (vI ((n + 1))), some (vI ((i + 1)))]) r_5_countJoined_44 rfl rfl (by omega) rfl ?_
            refine pw_goto r_5_countJoined_47 ?_
            exact ih18 ((i + 1)) ((n + 1)) (by omega) (by first | (rw [cnt_t hi.1 (show F i = F r by omega)]; omega) | (rw [cnt_f hi.1 (show ¬ F i = F r by omega)]; omega)) (by omega)
    exact L18 _ (0) (0) (by omega) (rfl) (Nat.lt_succ_self _)
  · skip
    refine pw_const r_5_countJoined_8 ?_
    refine pw_iret r_5_countJoined_9 rfl (Nat.le_refl _) ⟨rfl, ?_⟩
    exact h1 (by omega)
set_option maxRecDepth 10000 in
theorem sp_X5_tellClash {l : Launch} {w : Wo} {d : Nat} {G : PH} {P : Option PV → PH → Prop} {k : Int} (hrw : 0 ≤ (gF G 5 0 0) ∧ (gF G 5 0 0) ≤ 100) (hrc : rowsC G) (hsy : symE (surC G) (gF G 5 0 0)) (h1 : ¬ (0 ≤ k ∧ k ≤ 2) → P (some (vI (-1))) G) (h2 : (0 ≤ k ∧ k ≤ 2) → ∀ F R v, clV (fun x y => Rch (surC G) (gF G 5 0 0) x y ∧ aptC G x y) (gF G 5 0 0) k v → P (some (vI v)) (uA (uA G 54 0 (F)) 55 0 (R))) : PW l w M_X5_tellClash (d + 6) 0 [some (vR 5 (0)), some (vI (k)), none, none, none] [] G P := by
  refine pw_iload r_5_tellClash_0 rfl ?_
  refine pw_const r_5_tellClash_1 ?_
  refine pw_const r_5_tellClash_2 ?_
  refine pw_callS (av := [vI (k), vI (0), vI (2)]) (st := []) (ls0 := [some (vI (k)), some (vI (0)), some (vI (2))]) r_5_tellClash_3 rfl rfl rfl (Nat.le_refl _) ?_
  refine sp_X11_within  ?_
  refine pw_if_neB r_5_tellClash_6 (fun h06 => ?_) (fun h06 => ?_)
  · skip
    refine pw_aload r_5_tellClash_11 rfl ?_
    refine pw_callV (av := []) (st := []) (ls0 := [some (vR 5 (0)), none]) r_5_tellClash_12 rfl rfl rfl (Nat.le_refl _) ?_
    refine sp_X5_groupAll (by first | assumption | exact hrw | omega) (by first | assumption | exact hrc | omega) (by first | assumption | exact hsy | omega) ?_
    intro F R hG
    refine pw_const r_5_tellClash_15 ?_
    refine pw_istore (ls' := [some (vR 5 (0)), some (vI (k)), some (vI (0)), none, none]) r_5_tellClash_16 rfl rfl ?_
    refine pw_const r_5_tellClash_17 ?_
    refine pw_istore (ls' := [some (vR 5 (0)), some (vI (k)), some (vI (0)), some (vI (0)), none]) r_5_tellClash_18 rfl rfl ?_
    have L19 : ∀ (nF : Nat) (a n : Int), (ha : 0 ≤ a ∧ a ≤ (gF G 5 0 0)) → (hnb : 0 ≤ n ∧ n ≤ 100 * a) → (hn : k = 0 → n = clS (fun x y => Rch (surC G) (gF G 5 0 0) x y ∧ aptC G x y) (gF G 5 0 0) a) → (hN : k ≠ 0 → clN (fun x y => Rch (surC G) (gF G 5 0 0) x y ∧ aptC G x y) (gF G 5 0 0) a) → ((gF G 5 0 0) - a).toNat < nF → PW l w M_X5_tellClash (d + 6) 19 [some (vR 5 (0)), some (vI (k)), some (vI (n)), some (vI (a)), none] [] (uA (uA G 54 (0) (F)) 55 (0) (R)) P := by
      intro nF
      induction nF with
      | zero => intro _ _ _ _ _ _ hM; exact absurd hM (Nat.not_lt_zero _)
      | succ nF ih19 =>
        intro a n ha hnb hn hN hM19
        refine pw_iload r_5_tellClash_19 rfl ?_
        refine pw_aload r_5_tellClash_20 rfl ?_
        refine pw_getIv (v := gF G 5 (0) 0) r_5_tellClash_21 fs_5_0 (by decide) (by first | rfl | simp [gF_sF, gF_sA, gF_uA, gF_sD, gA_sF, gA_sA, gA_uA, gA_sD, gD_sF, gD_sA, gD_uA, gD_sD]) ?_
        refine pw_icmp_ge r_5_tellClash_24 (fun h24 => ?_) (fun h24 => ?_)
        · skip
          refine pw_iload r_5_tellClash_98 rfl ?_
          refine pw_if_ne r_5_tellClash_99 (fun h99 => ?_) (fun h99 => ?_)
          · skip
            refine pw_const r_5_tellClash_106 ?_
            refine pw_iret r_5_tellClash_108 rfl (Nat.le_refl _) ⟨rfl, ?_⟩
            have ea : a = (gF G 5 0 0) := by omega
            subst ea
            first | exact h2 (by omega) F R _ (Or.inl ⟨by omega, hn (by omega)⟩) | exact h2 (by omega) F R _ (Or.inr (Or.inl ⟨by omega, hN (by omega), rfl⟩))
          · skip
            refine pw_iload r_5_tellClash_102 rfl ?_
            refine pw_goto r_5_tellClash_103 ?_
            refine pw_iret r_5_tellClash_108 rfl (Nat.le_refl _) ⟨rfl, ?_⟩
            have ea : a = (gF G 5 0 0) := by omega
            subst ea
            first | exact h2 (by omega) F R _ (Or.inl ⟨by omega, hn (by omega)⟩) | exact h2 (by omega) F R _ (Or.inr (Or.inl ⟨by omega, hN (by omega), rfl⟩))
        · skip
          refine pw_iload r_5_tellClash_27 rfl ?_
          refine pw_const r_5_tellClash_28 ?_
          refine pw_iadd r_5_tellClash_29 (by omega) ?_
          refine pw_istore (ls' := [some (vR 5 (0)), some (vI (k)), some (vI (n)), some (vI (a)), some (vI ((a + 1)))]) r_5_tellClash_30 rfl rfl ?_
          have L32 : ∀ (nF : Nat) (b n : Int), (hb : a + 1 ≤ b ∧ b ≤ (gF G 5 0 0)) → (hnc : 0 ≤ n ∧ n ≤ 100 * a + b) → (hm : k = 0 → n = clS (fun x y => Rch (surC G) (gF G 5 0 0) x y ∧ aptC G x y) (gF G 5 0 0) a + cnt (fun y => a < y ∧ (fun x y => Rch (surC G) (gF G 5 0 0) x y ∧ aptC G x y) a y) b) → (hM : k ≠ 0 → ∀ y, a < y → y < b → ¬ (fun x y => Rch (surC G) (gF G 5 0 0) x y ∧ aptC G x y) a y) → ((gF G 5 0 0) - b).toNat < nF → PW l w M_X5_tellClash (d + 6) 32 [some (vR 5 (0)), some (vI (k)), some (vI (n)), some (vI (a)), some (vI (b))] [] (uA (uA G 54 (0) (F)) 55 (0) (R)) P := by
            intro nF
            induction nF with
            | zero => intro _ _ _ _ _ _ hM; exact absurd hM (Nat.not_lt_zero _)
            | succ nF ih32 =>
              intro b n hb hnc hm hM hM32
              refine pw_iload r_5_tellClash_32 rfl ?_
              refine pw_aload r_5_tellClash_34 rfl ?_
              refine pw_getIv (v := gF G 5 (0) 0) r_5_tellClash_35 fs_5_0 (by decide) (by first | rfl | simp [gF_sF, gF_sA, gF_uA, gF_sD, gA_sF, gA_sA, gA_uA, gA_sD, gD_sF, gD_sA, gD_uA, gD_sD]) ?_
              refine pw_icmp_ge r_5_tellClash_38 (fun h38 => ?_) (fun h38 => ?_)
              · skip
                refine pw_iinc (b := 0) (ls' := [some (vR 5 (0)), some (vI (k)), some (vI (n)), some (vI ((a + 1))), some (vI (b))]) r_5_tellClash_92 rfl rfl (by omega) rfl ?_
                refine pw_goto r_5_tellClash_95 ?_
                refine pw_weakL (ls' := [some (vR 5 (0)), some (vI (k)), some (vI (n)), some (vI ((a + 1))), none]) (⟨rfl, ⟨rfl, ⟨rfl, ⟨rfl, trivial⟩⟩⟩⟩) ?_
                exact ih19 ((a + 1)) (n) (by omega) (by omega) (fun e => by have h9 := hm e; rw [show b = (gF G 5 0 0) by omega] at h9; rw [clS_s ha.1]; exact h9) (fun e => clN_s (hN e) (fun y y0 y1 => hM e y y0 (by omega))) (by omega)
              · skip
                have hGab := hG a b (by omega) (by omega) (by omega) (by omega)
                refine pw_aload r_5_tellClash_41 rfl ?_
                refine pw_getR r_5_tellClash_42 fs_5_7 (by decide) ?_
                refine pw_iload r_5_tellClash_45 rfl ?_
                refine pw_ialdv (v := (F) (a)) r_5_tellClash_46 sh54 (by omega) (by omega) (by first | rfl | simp [gF_sF, gF_sA, gF_uA, gF_sD, gA_sF, gA_sA, gA_uA, gA_sD, gD_sF, gD_sA, gD_uA, gD_sD]) ?_
                refine pw_aload r_5_tellClash_47 rfl ?_
                refine pw_getR r_5_tellClash_48 fs_5_7 (by decide) ?_
                refine pw_iload r_5_tellClash_51 rfl ?_
                refine pw_ialdv (v := (F) (b)) r_5_tellClash_53 sh54 (by omega) (by omega) (by first | rfl | simp [gF_sF, gF_sA, gF_uA, gF_sD, gA_sF, gA_sA, gA_uA, gA_sD, gD_sF, gD_sA, gD_uA, gD_sD]) ?_
                refine pw_icmp_ne r_5_tellClash_54 (fun h54 => ?_) (fun h54 => ?_)
                · skip
                  have hno : ¬ (fun x y => Rch (surC G) (gF G 5 0 0) x y ∧ aptC G x y) a b := fun z => h54 (hGab.mpr z.1)
                  refine pw_iinc (b := 0) (ls' := [some (vR 5 (0)), some (vI (k)), some (vI (n)), some (vI (a)), some (vI ((b + 1)))]) r_5_tellClash_86 rfl rfl (by omega) rfl ?_
                  refine pw_goto r_5_tellClash_89 ?_
                  exact ih32 ((b + 1)) (n) (by omega) (by omega) (fun e => by have h9 := hm e; first | (rw [cnt_t (by omega) ⟨by omega, hyes⟩]; omega) | (rw [cnt_f (by omega) (fun z => hno z.2)]; omega)) (fun e y y0 y1 => by first | (exfalso; omega) | exact (Classical.em (y = b)).elim (fun z => by rw [z]; exact hno) (fun z => hM e y y0 (by omega))) (by omega)
                · skip
                  refine pw_aload r_5_tellClash_57 rfl ?_
                  refine pw_iload r_5_tellClash_58 rfl ?_
                  refine pw_iload r_5_tellClash_59 rfl ?_
                  refine pw_callV (av := [vI (a), vI (b)]) (st := []) (ls0 := [some (vR 5 (0)), some (vI (a)), some (vI (b))]) r_5_tellClash_61 rfl rfl rfl (Nat.le_refl _) ?_
                  refine sp_X5_mustBeApart (hrw) (hrc) (⟨by omega, show a < (gF G 5 0 0) by omega⟩) (⟨by omega, show b < (gF G 5 0 0) by omega⟩) ?_
                  refine pw_if_eqB r_5_tellClash_64 (fun h64 => ?_) (fun h64 => ?_)
                  · skip
                    have hno : ¬ (fun x y => Rch (surC G) (gF G 5 0 0) x y ∧ aptC G x y) a b := fun z => h64 z.2
                    refine pw_iinc (b := 0) (ls' := [some (vR 5 (0)), some (vI (k)), some (vI (n)), some (vI (a)), some (vI ((b + 1)))]) r_5_tellClash_86 rfl rfl (by omega) rfl ?_
                    refine pw_goto r_5_tellClash_89 ?_
                    exact ih32 ((b + 1)) (n) (by omega) (by omega) (fun e => by have h9 := hm e; first | (rw [cnt_t (by omega) ⟨by omega, hyes⟩]; omega) | (rw [cnt_f (by omega) (fun z => hno z.2)]; omega)) (fun e y y0 y1 => by first | (exfalso; omega) | exact (Classical.em (y = b)).elim (fun z => by rw [z]; exact hno) (fun z => hM e y y0 (by omega))) (by omega)
                  · skip
                    have hyes : (fun x y => Rch (surC G) (gF G 5 0 0) x y ∧ aptC G x y) a b := ⟨hGab.mp (by omega), h64⟩
                    refine pw_iload r_5_tellClash_67 rfl ?_
                    refine pw_if_eq r_5_tellClash_68 (fun h68 => ?_) (fun h68 => ?_)
                    · skip
                      refine pw_iinc (b := 0) (ls' := [some (vR 5 (0)), some (vI (k)), some (vI ((n + 1))), some (vI (a)), some (vI (b))]) r_5_tellClash_83 rfl rfl (by omega) rfl ?_
                      refine pw_iinc (b := 0) (ls' := [some (vR 5 (0)), some (vI (k)), some (vI ((n + 1))), some (vI (a)), some (vI ((b + 1)))]) r_5_tellClash_86 rfl rfl (by omega) rfl ?_
                      refine pw_goto r_5_tellClash_89 ?_
                      exact ih32 ((b + 1)) ((n + 1)) (by omega) (by omega) (fun e => by have h9 := hm e; first | (rw [cnt_t (by omega) ⟨by omega, hyes⟩]; omega) | (rw [cnt_f (by omega) (fun z => hno z.2)]; omega)) (fun e y y0 y1 => by first | (exfalso; omega) | exact (Classical.em (y = b)).elim (fun z => by rw [z]; exact hno) (fun z => hM e y y0 (by omega))) (by omega)
                    · skip
                      refine pw_iload r_5_tellClash_71 rfl ?_
                      refine pw_const r_5_tellClash_72 ?_
                      refine pw_icmp_ne r_5_tellClash_73 (fun h73 => ?_) (fun h73 => ?_)
                      · skip
                        refine pw_iload r_5_tellClash_80 rfl ?_
                        refine pw_iret r_5_tellClash_82 rfl (Nat.le_refl _) ⟨rfl, ?_⟩
                        have hq := clF_of (C := (fun x y => Rch (surC G) (gF G 5 0 0) x y ∧ aptC G x y)) ha.1 (by omega) (by omega) (hN (by omega)) (hM (by omega)) hyes
                        exact h2 (by omega) F R _ (Or.inr (Or.inr ⟨by omega, a, b, hq, by omega⟩))
                      · skip
                        refine pw_iload r_5_tellClash_76 rfl ?_
                        refine pw_goto r_5_tellClash_77 ?_
                        refine pw_iret r_5_tellClash_82 rfl (Nat.le_refl _) ⟨rfl, ?_⟩
                        have hq := clF_of (C := (fun x y => Rch (surC G) (gF G 5 0 0) x y ∧ aptC G x y)) ha.1 (by omega) (by omega) (hN (by omega)) (hM (by omega)) hyes
                        exact h2 (by omega) F R _ (Or.inr (Or.inr ⟨by omega, a, b, hq, by omega⟩))
          exact L32 _ ((a + 1)) (n) (by omega) (by omega) (fun e => by rw [cnt_none (by omega) (fun y y0 y1 z => by have := z.1; omega)]; have := hn e; omega) (fun _ y y0 y1 => by omega) (Nat.lt_succ_self _)
    exact L19 _ (0) (0) (by omega) (by omega) (fun _ => rfl) (fun _ x y x0 x1 => by omega) (Nat.lt_succ_self _)
  · skip
    refine pw_const r_5_tellClash_9 ?_
    refine pw_iret r_5_tellClash_10 rfl (Nat.le_refl _) ⟨rfl, ?_⟩
    exact h1 (by omega)
set_option maxRecDepth 10000 in
theorem sp_X12_findJoined {l : Launch} {w : Wo} {d : Nat} {G : PH} {P : Option PV → PH → Prop} {r : Int} {ln : Int → Int} (hrw : 0 ≤ (gF G 12 0 55) ∧ (gF G 12 0 55) ≤ 100) (hrm : rowsM G ln) (hr : 0 ≤ r ∧ r < (gF G 12 0 55)) (hP : ∀ J z, JnP (surM G ln) (gF G 12 0 55) r J → P none (sF (uA G 241 0 (J)) 12 0 58 (z))) : PW l w M_X12_findJoined (d + 3) 0 [some (vR 12 (0)), some (vI (r)), none, none, none] [] G P := by
  refine pw_const r_12_findJoined_0 ?_
  refine pw_istore (ls' := [some (vR 12 (0)), some (vI (r)), some (vI (0)), none, none]) r_12_findJoined_1 rfl rfl ?_
  have L2 : ∀ (nF : Nat) (i : Int) (J : Int → Int), (hi : 0 ≤ i ∧ i ≤ (gF G 12 0 55)) → (hJ : ∀ x, 0 ≤ x → x < i → (x = r ∧ J x = 1) ∨ (x ≠ r ∧ J x = 0)) → ((gF G 12 0 55) - i).toNat < nF → PW l w M_X12_findJoined (d + 3) 2 [some (vR 12 (0)), some (vI (r)), some (vI (i)), none, none] [] (uA G 241 (0) (J)) P := by
    intro nF
    induction nF with
    | zero => intro _ _ _ _ hM; exact absurd hM (Nat.not_lt_zero _)
    | succ nF ih2 =>
      intro i J hi hJ hM2
      refine pw_iload r_12_findJoined_2 rfl ?_
      refine pw_aload r_12_findJoined_3 rfl ?_
      refine pw_getIv (v := gF G 12 (0) 55) r_12_findJoined_4 fs_12_55 (by decide) (by first | rfl | simp [gF_sF, gF_sA, gF_uA, gF_sD, gA_sF, gA_sA, gA_uA, gA_sD, gD_sF, gD_sA, gD_uA, gD_sD]) ?_
      refine pw_icmp_ge r_12_findJoined_7 (fun h07 => ?_) (fun h07 => ?_)
      · skip
        refine pw_const r_12_findJoined_32 ?_
        refine pw_istore (ls' := [some (vR 12 (0)), some (vI (r)), some (vI (1)), none, none]) r_12_findJoined_33 rfl rfl ?_
        have L34 : ∀ (nF : Nat) (v z : Int) (J : Int → Int), (hv : v = 0 ∨ v = 1) → (hB : JnB (surM G ln) (gF G 12 0 55) r J) → (hC : v = 0 → JnC (surM G ln) (gF G 12 0 55) J (gF G 12 0 55) 0) → (2 * (cnt (fun x => J x = 0) (gF G 12 0 55)) + v).toNat < nF → PW l w M_X12_findJoined (d + 3) 34 [some (vR 12 (0)), some (vI (r)), some (vI (v)), none, none] [] (sF (uA G 241 (0) (J)) 12 (0) 58 (z)) P := by
          intro nF
          induction nF with
          | zero => intro _ _ _ _ _ _ hM; exact absurd hM (Nat.not_lt_zero _)
          | succ nF ih34 =>
            intro v z J hv hB hC hM34
            have hcn := cnt_le (fun x => J x = 0) hrw.1
            refine pw_iload r_12_findJoined_34 rfl ?_
            refine pw_if_eq r_12_findJoined_35 (fun h35 => ?_) (fun h35 => ?_)
            · skip
              refine pw_vret r_12_findJoined_133 rfl (Nat.le_refl _) ⟨rfl, ?_⟩
              exact hP J z (JnP_end hB hr (hC (by omega)) (Int.le_refl _))
            · skip
              refine pw_const r_12_findJoined_38 ?_
              refine pw_istore (ls' := [some (vR 12 (0)), some (vI (r)), some (vI (0)), none, none]) r_12_findJoined_39 rfl rfl ?_
              refine pw_const r_12_findJoined_40 ?_
              refine pw_istore (ls' := [some (vR 12 (0)), some (vI (r)), some (vI (0)), some (vI (0)), none]) r_12_findJoined_41 rfl rfl ?_
              have L42 : ∀ (nF : Nat) (v a z : Int) (J1 : Int → Int), (hv1 : v = 0 ∨ v = 1) → (ha : 0 ≤ a ∧ a ≤ (gF G 12 0 55)) → (hB1 : JnB (surM G ln) (gF G 12 0 55) r J1) → (hs : cnt (fun x => J1 x = 0) (gF G 12 0 55) + v ≤ cnt (fun x => J x = 0) (gF G 12 0 55)) → (hx : v = 0 → JnC (surM G ln) (gF G 12 0 55) J1 a 0) → ((gF G 12 0 55) - a).toNat < nF → PW l w M_X12_findJoined (d + 3) 42 [some (vR 12 (0)), some (vI (r)), some (vI (v)), some (vI (a)), none] [] (sF (uA G 241 (0) (J1)) 12 (0) 58 (z)) P := by
                intro nF
                induction nF with
                | zero => intro _ _ _ _ _ _ _ _ _ hM; exact absurd hM (Nat.not_lt_zero _)
                | succ nF ih42 =>
                  intro v a z J1 hv1 ha hB1 hs hx hM42
                  refine pw_iload r_12_findJoined_42 rfl ?_
                  refine pw_aload r_12_findJoined_43 rfl ?_
                  refine pw_getIv (v := gF G 12 (0) 55) r_12_findJoined_44 fs_12_55 (by decide) (by first | rfl | simp [gF_sF, gF_sA, gF_uA, gF_sD, gA_sF, gA_sA, gA_uA, gA_sD, gD_sF, gD_sA, gD_uA, gD_sD]) ?_
                  refine pw_icmp_ge r_12_findJoined_47 (fun h47 => ?_) (fun h47 => ?_)
                  · skip
                    refine pw_goto r_12_findJoined_130 ?_
                    refine pw_weakL (ls' := [some (vR 12 (0)), some (vI (r)), some (vI (v)), none, none]) (⟨rfl, ⟨rfl, ⟨rfl, trivial⟩⟩⟩) ?_
                    exact ih34 (v) (z) (J1) (by omega) (hB1) (fun e => by have h9 := hx e; rw [show a = (gF G 12 0 55) by omega] at h9; exact h9) (by omega)
                  · skip
                    refine pw_const r_12_findJoined_50 ?_
                    refine pw_istore (ls' := [some (vR 12 (0)), some (vI (r)), some (vI (v)), some (vI (a)), some (vI (0))]) r_12_findJoined_51 rfl rfl ?_
                    have L53 : ∀ (nF : Nat) (v b z : Int) (J2 : Int → Int), (hv2 : v = 0 ∨ v = 1) → (hb : 0 ≤ b ∧ b ≤ (gF G 12 0 55)) → (hB2 : JnB (surM G ln) (gF G 12 0 55) r J2) → (hs2 : cnt (fun x => J2 x = 0) (gF G 12 0 55) + v ≤ cnt (fun x => J x = 0) (gF G 12 0 55)) → (hy : v = 0 → JnC (surM G ln) (gF G 12 0 55) J2 a b) → ((gF G 12 0 55) - b).toNat < nF → PW l w M_X12_findJoined (d + 3) 53 [some (vR 12 (0)), some (vI (r)), some (vI (v)), some (vI (a)), some (vI (b))] [] (sF (uA G 241 (0) (J2)) 12 (0) 58 (z)) P := by
                      intro nF
                      induction nF with
                      | zero => intro _ _ _ _ _ _ _ _ _ hM; exact absurd hM (Nat.not_lt_zero _)
                      | succ nF ih53 =>
                        intro v b z J2 hv2 hb hB2 hs2 hy hM53
                        have hJ01 : ∀ x, 0 ≤ x → x < (gF G 12 0 55) → J2 x = 1 ∨ J2 x = 0 := fun x x0 x1 => (hB2.2 x x0 x1).imp (fun q => q.1) id
                        refine pw_iload r_12_findJoined_53 rfl ?_
                        refine pw_aload r_12_findJoined_55 rfl ?_
                        refine pw_getIv (v := gF G 12 (0) 55) r_12_findJoined_56 fs_12_55 (by decide) (by first | rfl | simp [gF_sF, gF_sA, gF_uA, gF_sD, gA_sF, gA_sA, gA_uA, gA_sD, gD_sF, gD_sA, gD_uA, gD_sD]) ?_
                        refine pw_icmp_ge r_12_findJoined_59 (fun h59 => ?_) (fun h59 => ?_)
                        · skip
                          refine pw_iinc (b := 0) (ls' := [some (vR 12 (0)), some (vI (r)), some (vI (v)), some (vI ((a + 1))), some (vI (b))]) r_12_findJoined_124 rfl rfl (by omega) rfl ?_
                          refine pw_goto r_12_findJoined_127 ?_
                          refine pw_weakL (ls' := [some (vR 12 (0)), some (vI (r)), some (vI (v)), some (vI ((a + 1))), none]) (⟨rfl, ⟨rfl, ⟨rfl, ⟨rfl, trivial⟩⟩⟩⟩) ?_
                          exact ih42 (v) ((a + 1)) (z) (J2) (by omega) (by omega) (hB2) (by omega) (fun e => JnC_a (hy e) (by omega)) (by omega)
                        · skip
                          refine pw_aload r_12_findJoined_62 rfl ?_
                          refine pw_getR r_12_findJoined_63 fs_12_59 (by decide) ?_
                          refine pw_iload r_12_findJoined_66 rfl ?_
                          refine pw_zaldv (v := (J2) (a)) r_12_findJoined_67 sh241 (by omega) (by omega) (by first | rfl | simp [gF_sF, gF_sA, gF_uA, gF_sD, gA_sF, gA_sA, gA_uA, gA_sD, gD_sF, gD_sA, gD_uA, gD_sD]) ?_
                          refine pw_if_eq r_12_findJoined_68 (fun h68 => ?_) (fun h68 => ?_)
                          · skip
                            refine pw_iinc (b := 0) (ls' := [some (vR 12 (0)), some (vI (r)), some (vI (v)), some (vI (a)), some (vI ((b + 1)))]) r_12_findJoined_118 rfl rfl (by omega) rfl ?_
                            refine pw_goto r_12_findJoined_121 ?_
                            exact ih53 (v) ((b + 1)) (z) (J2) (by omega) (by omega) (by first | exact hB2 | exact htk.1) (by omega) (by first | (intro e; exact absurd e (by decide)) | exact fun e => JnC_b (hy e) (Or.inl (by omega)) hJ01 | exact fun e => JnC_b (hy e) (Or.inr (Or.inl (by omega))) hJ01 | exact fun e => JnC_b (hy e) (Or.inr (Or.inr hnE)) hJ01) (by omega)
                          · skip
                            refine pw_aload r_12_findJoined_71 rfl ?_
                            refine pw_getR r_12_findJoined_72 fs_12_59 (by decide) ?_
                            refine pw_iload r_12_findJoined_75 rfl ?_
                            refine pw_zaldv (v := (J2) (b)) r_12_findJoined_77 sh241 (by omega) (by omega) (by first | rfl | simp [gF_sF, gF_sA, gF_uA, gF_sD, gA_sF, gA_sA, gA_uA, gA_sD, gD_sF, gD_sA, gD_uA, gD_sD]) ?_
                            refine pw_if_ne r_12_findJoined_78 (fun h78 => ?_) (fun h78 => ?_)
                            · skip
                              refine pw_iinc (b := 0) (ls' := [some (vR 12 (0)), some (vI (r)), some (vI (v)), some (vI (a)), some (vI ((b + 1)))]) r_12_findJoined_118 rfl rfl (by omega) rfl ?_
                              refine pw_goto r_12_findJoined_121 ?_
                              exact ih53 (v) ((b + 1)) (z) (J2) (by omega) (by omega) (by first | exact hB2 | exact htk.1) (by omega) (by first | (intro e; exact absurd e (by decide)) | exact fun e => JnC_b (hy e) (Or.inl (by omega)) hJ01 | exact fun e => JnC_b (hy e) (Or.inr (Or.inl (by omega))) hJ01 | exact fun e => JnC_b (hy e) (Or.inr (Or.inr hnE)) hJ01) (by omega)
                            · skip
                              refine pw_aload r_12_findJoined_81 rfl ?_
                              refine pw_getR r_12_findJoined_82 fs_12_51 (by decide) ?_
                              refine pw_iload r_12_findJoined_85 rfl ?_
                              refine pw_ialdv (v := gA G 236 (0) (a)) r_12_findJoined_86 sh236 (by omega) (by omega) (by first | rfl | simp [gF_sF, gF_sA, gF_uA, gF_sD, gA_sF, gA_sA, gA_uA, gA_sD, gD_sF, gD_sA, gD_uA, gD_sD]) ?_
                              refine pw_aload r_12_findJoined_87 rfl ?_
                              refine pw_getR r_12_findJoined_88 fs_12_51 (by decide) ?_
                              refine pw_iload r_12_findJoined_91 rfl ?_
                              refine pw_ialdv (v := gA G 236 (0) (b)) r_12_findJoined_93 sh236 (by omega) (by omega) (by first | rfl | simp [gF_sF, gF_sA, gF_uA, gF_sD, gA_sF, gA_sA, gA_uA, gA_sD, gD_sF, gD_sA, gD_uA, gD_sD]) ?_
                              refine pw_icmp_eq r_12_findJoined_94 (fun h94 => ?_) (fun h94 => ?_)
                              · skip
                                have hnE : ¬ surM G ln a b := fun q => q.1 (by omega)
                                refine pw_iinc (b := 0) (ls' := [some (vR 12 (0)), some (vI (r)), some (vI (v)), some (vI (a)), some (vI ((b + 1)))]) r_12_findJoined_118 rfl rfl (by omega) rfl ?_
                                refine pw_goto r_12_findJoined_121 ?_
                                exact ih53 (v) ((b + 1)) (z) (J2) (by omega) (by omega) (by first | exact hB2 | exact htk.1) (by omega) (by first | (intro e; exact absurd e (by decide)) | exact fun e => JnC_b (hy e) (Or.inl (by omega)) hJ01 | exact fun e => JnC_b (hy e) (Or.inr (Or.inl (by omega))) hJ01 | exact fun e => JnC_b (hy e) (Or.inr (Or.inr hnE)) hJ01) (by omega)
                              · skip
                                refine pw_aload r_12_findJoined_97 rfl ?_
                                refine pw_iload r_12_findJoined_98 rfl ?_
                                refine pw_iload r_12_findJoined_99 rfl ?_
                                refine pw_callV (av := [vI (a), vI (b)]) (st := []) (ls0 := [some (vR 12 (0)), some (vI (a)), some (vI (b))]) r_12_findJoined_101 rfl rfl rfl (Nat.le_refl _) ?_
                                refine sp_X12_sameOf (ln := ln) (hrw) (hrm) (⟨by omega, show a < (gF G 12 0 55) by omega⟩) (⟨by omega, show b < (gF G 12 0 55) by omega⟩) ?_
                                intro z1
                                refine pw_const r_12_findJoined_104 ?_
                                refine pw_icmp_ne r_12_findJoined_105 (fun h105 => ?_) (fun h105 => ?_)
                                · skip
                                  have hnE : ¬ surM G ln a b := fun q => h105 q.2
                                  refine pw_iinc (b := 0) (ls' := [some (vR 12 (0)), some (vI (r)), some (vI (v)), some (vI (a)), some (vI ((b + 1)))]) r_12_findJoined_118 rfl rfl (by omega) rfl ?_
                                  refine pw_goto r_12_findJoined_121 ?_
                                  refine pw_eqG (G' := sF (uA G 241 (0) (J2)) 12 (0) 58 (z1)) (by first | rfl | (rw [sF_sF]; done) | (rw [sA_sF, sA_sF, sA_uA, sF_sF]; done)) ?_
                                  exact ih53 (v) ((b + 1)) (z1) (J2) (by omega) (by omega) (by first | exact hB2 | exact htk.1) (by omega) (by first | (intro e; exact absurd e (by decide)) | exact fun e => JnC_b (hy e) (Or.inl (by omega)) hJ01 | exact fun e => JnC_b (hy e) (Or.inr (Or.inl (by omega))) hJ01 | exact fun e => JnC_b (hy e) (Or.inr (Or.inr hnE)) hJ01) (by omega)
                                · skip
                                  have htk := JnB_take hB2 ha.1 (by omega) hb.1 (by omega) (by omega) (by omega) (show surM G ln a b from ⟨by omega, h105⟩)
                                  refine pw_aload r_12_findJoined_108 rfl ?_
                                  refine pw_getR r_12_findJoined_109 fs_12_59 (by decide) ?_
                                  refine pw_iload r_12_findJoined_112 rfl ?_
                                  refine pw_const r_12_findJoined_114 ?_
                                  refine pw_zast r_12_findJoined_115 sh241 (by omega) (by omega) (by omega) ?_
                                  refine pw_const r_12_findJoined_116 ?_
                                  refine pw_istore (ls' := [some (vR 12 (0)), some (vI (r)), some (vI (1)), some (vI (a)), some (vI (b))]) r_12_findJoined_117 rfl rfl ?_
                                  refine pw_iinc (b := 0) (ls' := [some (vR 12 (0)), some (vI (r)), some (vI (1)), some (vI (a)), some (vI ((b + 1)))]) r_12_findJoined_118 rfl rfl (by omega) rfl ?_
                                  refine pw_goto r_12_findJoined_121 ?_
                                  refine pw_eqG (G' := sF (uA G 241 (0) ((upA J2 b 1))) 12 (0) 58 (z1)) (by first | rfl | (rw [sF_sF]; done) | (rw [sA_sF, sA_sF, sA_uA, sF_sF]; done)) ?_
                                  exact ih53 (1) ((b + 1)) (z1) ((upA J2 b 1)) (by omega) (by omega) (by first | exact hB2 | exact htk.1) (by omega) (by first | (intro e; exact absurd e (by decide)) | exact fun e => JnC_b (hy e) (Or.inl (by omega)) hJ01 | exact fun e => JnC_b (hy e) (Or.inr (Or.inl (by omega))) hJ01 | exact fun e => JnC_b (hy e) (Or.inr (Or.inr hnE)) hJ01) (by omega)
                    exact L53 _ (v) (0) (z) (J1) (by omega) (by omega) (hB1) (by omega) (fun e => hx e) (Nat.lt_succ_self _)
              exact L42 _ (0) (0) (z) (J) (by omega) (by omega) (hB) (by omega) (fun _ => JnC_0) (Nat.lt_succ_self _)
        refine pw_eqG (G' := sF (uA G 241 (0) (J)) 12 (0) 58 (gF G 12 0 58)) (by exact (sF_self _ 12 0 58).symm) ?_
        exact L34 _ (1) (gF G 12 0 58) (J) (by omega) (JnB_0 hr (fun x a b => hJ x a (by omega))) (fun e => by omega) (Nat.lt_succ_self _)
      · skip
        refine pw_aload r_12_findJoined_10 rfl ?_
        refine pw_getR r_12_findJoined_11 fs_12_59 (by decide) ?_
        refine pw_iload r_12_findJoined_14 rfl ?_
        refine pw_iload r_12_findJoined_15 rfl ?_
        refine pw_iload r_12_findJoined_16 rfl ?_
        refine pw_icmp_ne r_12_findJoined_17 (fun h17 => ?_) (fun h17 => ?_)
        · skip
          refine pw_const r_12_findJoined_24 ?_
          refine pw_zast r_12_findJoined_25 sh241 (by omega) (by omega) (by omega) ?_
          refine pw_iinc (b := 0) (ls' := [some (vR 12 (0)), some (vI (r)), some (vI ((i + 1))), none, none]) r_12_findJoined_26 rfl rfl (by omega) rfl ?_
          refine pw_goto r_12_findJoined_29 ?_
          refine pw_eqG (G' := uA G 241 (0) ((upA J i 0))) (by first | rfl | (rw [uA_self]; done) | (rw [sA_uA]; done) | (rw [sA_eq]; done) | (simp (disch := decide) only [sA_uA, sA_uA_ne, uA_abs, uA_abs2, uA_uA]; done) | (simp (disch := decide) only [sA_eq, sA_uA, sA_uA_ne, uA_abs, uA_abs2, uA_uA]; done) | (refine PH_ext (fun _ _ _ => ?_) (fun _ _ _ => ?_) (fun _ _ _ => ?_) <;> simp only [gF_sF, gF_sA, gF_uA, gF_sD, gA_sF, gA_sA, gA_uA, gA_sD, gD_sF, gD_sA, gD_uA, gD_sD] <;> (repeat' split) <;> first | rfl | (exfalso; omega) | simp_all)) ?_
          exact ih2 ((i + 1)) ((upA J i 0)) (by omega) (all_s (fun x a b => by rw [upA_ne (by omega)]; exact hJ x a b) (by rw [upA_same]; omega)) (by omega)
        · skip
          refine pw_const r_12_findJoined_20 ?_
          refine pw_goto r_12_findJoined_21 ?_
          refine pw_zast r_12_findJoined_25 sh241 (by omega) (by omega) (by omega) ?_
          refine pw_iinc (b := 0) (ls' := [some (vR 12 (0)), some (vI (r)), some (vI ((i + 1))), none, none]) r_12_findJoined_26 rfl rfl (by omega) rfl ?_
          refine pw_goto r_12_findJoined_29 ?_
          refine pw_eqG (G' := uA G 241 (0) ((upA J i 1))) (by first | rfl | (rw [uA_self]; done) | (rw [sA_uA]; done) | (rw [sA_eq]; done) | (simp (disch := decide) only [sA_uA, sA_uA_ne, uA_abs, uA_abs2, uA_uA]; done) | (simp (disch := decide) only [sA_eq, sA_uA, sA_uA_ne, uA_abs, uA_abs2, uA_uA]; done) | (refine PH_ext (fun _ _ _ => ?_) (fun _ _ _ => ?_) (fun _ _ _ => ?_) <;> simp only [gF_sF, gF_sA, gF_uA, gF_sD, gA_sF, gA_sA, gA_uA, gA_sD, gD_sF, gD_sA, gD_uA, gD_sD] <;> (repeat' split) <;> first | rfl | (exfalso; omega) | simp_all)) ?_
          exact ih2 ((i + 1)) ((upA J i 1)) (by omega) (all_s (fun x a b => by rw [upA_ne (by omega)]; exact hJ x a b) (by rw [upA_same]; omega)) (by omega)
  refine pw_eqG (G' := uA G 241 (0) (gA G 241 0)) (by rw [uA_self]) ?_
  exact L2 _ (0) (gA G 241 0) (by omega) (fun x a b => by omega) (Nat.lt_succ_self _)
set_option maxRecDepth 10000 in
theorem sp_X12_joined {l : Launch} {w : Wo} {d : Nat} {G : PH} {P : Option PV → PH → Prop} {r : Int} {ln : Int → Int} (hrw : 0 ≤ (gF G 12 0 55) ∧ (gF G 12 0 55) ≤ 100) (hrm : rowsM G ln) (h1 : ¬ (0 ≤ r ∧ r < (gF G 12 0 55)) → P (some (vI (-1))) G) (h2 : (0 ≤ r ∧ r < (gF G 12 0 55)) → ∀ J z, P (some (vI (cnt (fun k => Rch (surM G ln) (gF G 12 0 55) r k) (gF G 12 0 55)))) (sF (uA G 241 0 (J)) 12 0 58 (z))) : PW l w M_X12_joined (d + 4) 0 [some (vR 12 (0)), some (vI (r)), none, none] [] G P := by
  refine pw_aload r_12_joined_0 rfl ?_
  refine pw_iload r_12_joined_1 rfl ?_
  refine pw_callV (av := [vI (r)]) (st := []) (ls0 := [some (vR 12 (0)), some (vI (r))]) r_12_joined_2 rfl rfl rfl (Nat.le_refl _) ?_
  refine sp_X12_isRow  ?_
  refine pw_if_neB r_12_joined_5 (fun h05 => ?_) (fun h05 => ?_)
  · skip
    refine pw_aload r_12_joined_10 rfl ?_
    refine pw_iload r_12_joined_11 rfl ?_
    refine pw_callV (av := [vI (r)]) (st := []) (ls0 := [some (vR 12 (0)), some (vI (r)), none, none, none]) r_12_joined_12 rfl rfl rfl (Nat.le_refl _) ?_
    refine sp_X12_findJoined (ln := ln) (by first | assumption | exact hrw | omega) (by first | assumption | exact hrm | omega) (by omega) ?_
    intro J z hJ
    refine pw_const r_12_joined_15 ?_
    refine pw_istore (ls' := [some (vR 12 (0)), some (vI (r)), some (vI (0)), none]) r_12_joined_16 rfl rfl ?_
    refine pw_const r_12_joined_17 ?_
    refine pw_istore (ls' := [some (vR 12 (0)), some (vI (r)), some (vI (0)), some (vI (0))]) r_12_joined_18 rfl rfl ?_
    have L19 : ∀ (nF : Nat) (i n : Int), (hi : 0 ≤ i ∧ i ≤ (gF G 12 0 55)) → (hn : n = cnt (fun k => Rch (surM G ln) (gF G 12 0 55) r k) i) → ((gF G 12 0 55) - i).toNat < nF → PW l w M_X12_joined (d + 4) 19 [some (vR 12 (0)), some (vI (r)), some (vI (n)), some (vI (i))] [] (sF (uA G 241 (0) (J)) 12 (0) 58 (z)) P := by
      intro nF
      induction nF with
      | zero => intro _ _ _ _ hM; exact absurd hM (Nat.not_lt_zero _)
      | succ nF ih19 =>
        intro i n hi hn hM19
        have hcl := cnt_le (fun k => Rch (surM G ln) (gF G 12 0 55) r k) hi.1
        refine pw_iload r_12_joined_19 rfl ?_
        refine pw_aload r_12_joined_20 rfl ?_
        refine pw_getIv (v := gF G 12 (0) 55) r_12_joined_21 fs_12_55 (by decide) (by first | rfl | simp [gF_sF, gF_sA, gF_uA, gF_sD, gA_sF, gA_sA, gA_uA, gA_sD, gD_sF, gD_sA, gD_uA, gD_sD]) ?_
        refine pw_icmp_ge r_12_joined_24 (fun h24 => ?_) (fun h24 => ?_)
        · skip
          refine pw_iload r_12_joined_50 rfl ?_
          refine pw_iret r_12_joined_51 rfl (Nat.le_refl _) ⟨rfl, ?_⟩
          have ei : i = (gF G 12 0 55) := by omega
          subst ei
          exact pe (h2 (by omega) J z) hn
        · skip
          refine pw_iload r_12_joined_27 rfl ?_
          refine pw_aload r_12_joined_28 rfl ?_
          refine pw_getR r_12_joined_29 fs_12_59 (by decide) ?_
          refine pw_iload r_12_joined_32 rfl ?_
          refine pw_zaldv (v := (J) (i)) r_12_joined_33 sh241 (by omega) (by omega) (by first | rfl | simp [gF_sF, gF_sA, gF_uA, gF_sD, gA_sF, gA_sA, gA_uA, gA_sD, gD_sF, gD_sA, gD_uA, gD_sD]) ?_
          refine pw_if_eq r_12_joined_34 (fun h34 => ?_) (fun h34 => ?_)
          · skip
            refine pw_const r_12_joined_41 ?_
            refine pw_iadd r_12_joined_42 (by omega) ?_
            refine pw_istore (ls' := [some (vR 12 (0)), some (vI (r)), some (vI ((n + 0))), some (vI (i))]) r_12_joined_43 rfl rfl ?_
            refine pw_iinc (b := 0) (ls' := [some (vR 12 (0)), some (vI (r)), some (vI ((n + 0))), some (vI ((i + 1)))]) r_12_joined_44 rfl rfl (by omega) rfl ?_
            refine pw_goto r_12_joined_47 ?_
            exact ih19 ((i + 1)) ((n + 0)) (by omega) (by first | (rw [cnt_t (p := fun k => Rch (surM G ln) (gF G 12 0 55) r k) hi.1 ((hJ i hi.1 (by omega)).elim (fun q => q.2) (fun q => absurd q.1 (by omega)))]; omega) | (rw [cnt_f (p := fun k => Rch (surM G ln) (gF G 12 0 55) r k) hi.1 ((hJ i hi.1 (by omega)).elim (fun q => absurd q.1 (by omega)) (fun q => q.2))]; omega)) (by omega)
          · skip
            refine pw_const r_12_joined_37 ?_
            refine pw_goto r_12_joined_38 ?_
            refine pw_iadd r_12_joined_42 (by omega) ?_
            refine pw_istore (ls' := [some (vR 12 (0)), some (vI (r)), some (vI ((n + 1))), some (vI (i))]) r_12_joined_43 rfl rfl ?_
            refine pw_iinc (b := 0) (ls' := [some (vR 12 (0)), some (vI (r)), some (vI ((n + 1))), some (vI ((i + 1)))]) r_12_joined_44 rfl rfl (by omega) rfl ?_
            refine pw_goto r_12_joined_47 ?_
            exact ih19 ((i + 1)) ((n + 1)) (by omega) (by first | (rw [cnt_t (p := fun k => Rch (surM G ln) (gF G 12 0 55) r k) hi.1 ((hJ i hi.1 (by omega)).elim (fun q => q.2) (fun q => absurd q.1 (by omega)))]; omega) | (rw [cnt_f (p := fun k => Rch (surM G ln) (gF G 12 0 55) r k) hi.1 ((hJ i hi.1 (by omega)).elim (fun q => absurd q.1 (by omega)) (fun q => q.2))]; omega)) (by omega)
    exact L19 _ (0) (0) (by omega) (rfl) (Nat.lt_succ_self _)
  · skip
    refine pw_const r_12_joined_8 ?_
    refine pw_iret r_12_joined_9 rfl (Nat.le_refl _) ⟨rfl, ?_⟩
    exact h1 (by omega)
set_option maxRecDepth 10000 in
theorem sp_X12_clash {l : Launch} {w : Wo} {d : Nat} {G : PH} {P : Option PV → PH → Prop} {k : Int} {ln : Int → Int} (hrw : 0 ≤ (gF G 12 0 55) ∧ (gF G 12 0 55) ≤ 100) (hrm : rowsM G ln) (h1 : ¬ (0 ≤ k ∧ k ≤ 2) → P (some (vI (-1))) G) (h2 : (0 ≤ k ∧ k ≤ 2) → ∀ J z v, clV (fun x y => Rch (surM G ln) (gF G 12 0 55) x y ∧ aptM G ln x y) (gF G 12 0 55) k v → P (some (vI v)) (sF (uA G 241 0 (J)) 12 0 58 (z))) : PW l w M_X12_clash (d + 4) 0 [some (vR 12 (0)), some (vI (k)), none, none, none, none, none] [] G P := by
  refine pw_iload r_12_clash_0 rfl ?_
  refine pw_const r_12_clash_1 ?_
  refine pw_const r_12_clash_2 ?_
  refine pw_callS (av := [vI (k), vI (0), vI (2)]) (st := []) (ls0 := [some (vI (k)), some (vI (0)), some (vI (2))]) r_12_clash_3 rfl rfl rfl (Nat.le_refl _) ?_
  refine sp_X12_within  ?_
  refine pw_if_neB r_12_clash_6 (fun h06 => ?_) (fun h06 => ?_)
  · skip
    refine pw_const r_12_clash_11 ?_
    refine pw_istore (ls' := [some (vR 12 (0)), some (vI (k)), some (vI (0)), none, none, none, none]) r_12_clash_12 rfl rfl ?_
    refine pw_const r_12_clash_13 ?_
    refine pw_istore (ls' := [some (vR 12 (0)), some (vI (k)), some (vI (0)), some (vI ((-4))), none, none, none]) r_12_clash_15 rfl rfl ?_
    refine pw_const r_12_clash_16 ?_
    refine pw_istore (ls' := [some (vR 12 (0)), some (vI (k)), some (vI (0)), some (vI ((-4))), some (vI ((-4))), none, none]) r_12_clash_18 rfl rfl ?_
    refine pw_const r_12_clash_20 ?_
    refine pw_istore (ls' := [some (vR 12 (0)), some (vI (k)), some (vI (0)), some (vI ((-4))), some (vI ((-4))), some (vI (0)), none]) r_12_clash_21 rfl rfl ?_
    have L23 : ∀ (nF : Nat) (a n f s z : Int) (J : Int → Int), (ha : 0 ≤ a ∧ a ≤ (gF G 12 0 55)) → (hnb : 0 ≤ n ∧ n ≤ 100 * a) → (hn : n = clS (fun x y => Rch (surM G ln) (gF G 12 0 55) x y ∧ aptM G ln x y) (gF G 12 0 55) a) → (hF : (clN (fun x y => Rch (surM G ln) (gF G 12 0 55) x y ∧ aptM G ln x y) (gF G 12 0 55) a ∧ n = 0 ∧ f = -4 ∧ s = -4) ∨ (0 < n ∧ clF (fun x y => Rch (surM G ln) (gF G 12 0 55) x y ∧ aptM G ln x y) (gF G 12 0 55) f s)) → ((gF G 12 0 55) - a).toNat < nF → PW l w M_X12_clash (d + 4) 23 [some (vR 12 (0)), some (vI (k)), some (vI (n)), some (vI (f)), some (vI (s)), some (vI (a)), none] [] (sF (uA G 241 (0) (J)) 12 (0) 58 (z)) P := by
      intro nF
      induction nF with
      | zero => intro _ _ _ _ _ _ _ _ _ _ hM; exact absurd hM (Nat.not_lt_zero _)
      | succ nF ih23 =>
        intro a n f s z J ha hnb hn hF hM23
        refine pw_iload r_12_clash_23 rfl ?_
        refine pw_aload r_12_clash_25 rfl ?_
        refine pw_getIv (v := gF G 12 (0) 55) r_12_clash_26 fs_12_55 (by decide) (by first | rfl | simp [gF_sF, gF_sA, gF_uA, gF_sD, gA_sF, gA_sA, gA_uA, gA_sD, gD_sF, gD_sA, gD_uA, gD_sD]) ?_
        refine pw_icmp_ge r_12_clash_29 (fun h29 => ?_) (fun h29 => ?_)
        · skip
          refine pw_iload r_12_clash_113 rfl ?_
          refine pw_if_ne r_12_clash_114 (fun h114 => ?_) (fun h114 => ?_)
          · skip
            refine pw_iload r_12_clash_121 rfl ?_
            refine pw_const r_12_clash_122 ?_
            refine pw_icmp_ne r_12_clash_123 (fun h123 => ?_) (fun h123 => ?_)
            · skip
              refine pw_iload r_12_clash_130 rfl ?_
              refine pw_iret r_12_clash_132 rfl (Nat.le_refl _) ⟨rfl, ?_⟩
              have ea : a = (gF G 12 0 55) := by omega
              subst ea
              first | exact h2 (by omega) J z _ (Or.inl ⟨by omega, hn⟩) | (rcases hF with q | q; exact h2 (by omega) J z _ (Or.inr (Or.inl ⟨by omega, q.1, by omega⟩)); exact h2 (by omega) J z _ (Or.inr (Or.inr ⟨by omega, f, s, q.2, by omega⟩)))
            · skip
              refine pw_iload r_12_clash_126 rfl ?_
              refine pw_goto r_12_clash_127 ?_
              refine pw_iret r_12_clash_132 rfl (Nat.le_refl _) ⟨rfl, ?_⟩
              have ea : a = (gF G 12 0 55) := by omega
              subst ea
              first | exact h2 (by omega) J z _ (Or.inl ⟨by omega, hn⟩) | (rcases hF with q | q; exact h2 (by omega) J z _ (Or.inr (Or.inl ⟨by omega, q.1, by omega⟩)); exact h2 (by omega) J z _ (Or.inr (Or.inr ⟨by omega, f, s, q.2, by omega⟩)))
          · skip
            refine pw_iload r_12_clash_117 rfl ?_
            refine pw_goto r_12_clash_118 ?_
            refine pw_iret r_12_clash_132 rfl (Nat.le_refl _) ⟨rfl, ?_⟩
            have ea : a = (gF G 12 0 55) := by omega
            subst ea
            first | exact h2 (by omega) J z _ (Or.inl ⟨by omega, hn⟩) | (rcases hF with q | q; exact h2 (by omega) J z _ (Or.inr (Or.inl ⟨by omega, q.1, by omega⟩)); exact h2 (by omega) J z _ (Or.inr (Or.inr ⟨by omega, f, s, q.2, by omega⟩)))
        · skip
          refine pw_aload r_12_clash_32 rfl ?_
          refine pw_iload r_12_clash_33 rfl ?_
          refine pw_callV (av := [vI (a)]) (st := []) (ls0 := [some (vR 12 (0)), some (vI (a)), none, none, none]) r_12_clash_35 rfl rfl rfl (Nat.le_refl _) ?_
          refine sp_X12_findJoined (ln := ln) (hrw) (hrm) (⟨by omega, show a < (gF G 12 0 55) by omega⟩) ?_
          intro J1 z1 hJ
          refine pw_iload r_12_clash_38 rfl ?_
          refine pw_const r_12_clash_40 ?_
          refine pw_iadd r_12_clash_41 (by omega) ?_
          refine pw_istore (ls' := [some (vR 12 (0)), some (vI (k)), some (vI (n)), some (vI (f)), some (vI (s)), some (vI (a)), some (vI ((a + 1)))]) r_12_clash_42 rfl rfl ?_
          have L44 : ∀ (nF : Nat) (b n f s z : Int), (hb : a + 1 ≤ b ∧ b ≤ (gF G 12 0 55)) → (hnc : 0 ≤ n ∧ n ≤ 100 * a + b) → (hm : n = clS (fun x y => Rch (surM G ln) (gF G 12 0 55) x y ∧ aptM G ln x y) (gF G 12 0 55) a + cnt (fun y => a < y ∧ (fun x y => Rch (surM G ln) (gF G 12 0 55) x y ∧ aptM G ln x y) a y) b) → (hG : (clN (fun x y => Rch (surM G ln) (gF G 12 0 55) x y ∧ aptM G ln x y) (gF G 12 0 55) a ∧ (∀ y, a < y → y < b → ¬ (fun x y => Rch (surM G ln) (gF G 12 0 55) x y ∧ aptM G ln x y) a y) ∧ n = 0 ∧ f = -4 ∧ s = -4) ∨ (0 < n ∧ clF (fun x y => Rch (surM G ln) (gF G 12 0 55) x y ∧ aptM G ln x y) (gF G 12 0 55) f s)) → ((gF G 12 0 55) - b).toNat < nF → PW l w M_X12_clash (d + 4) 44 [some (vR 12 (0)), some (vI (k)), some (vI (n)), some (vI (f)), some (vI (s)), some (vI (a)), some (vI (b))] [] (sF (uA G 241 (0) (J1)) 12 (0) 58 (z)) P := by
            intro nF
            induction nF with
            | zero => intro _ _ _ _ _ _ _ _ _ hM; exact absurd hM (Nat.not_lt_zero _)
            | succ nF ih44 =>
              intro b n f s z hb hnc hm hG hM44
              refine pw_iload r_12_clash_44 rfl ?_
              refine pw_aload r_12_clash_46 rfl ?_
              refine pw_getIv (v := gF G 12 (0) 55) r_12_clash_47 fs_12_55 (by decide) (by first | rfl | simp [gF_sF, gF_sA, gF_uA, gF_sD, gA_sF, gA_sA, gA_uA, gA_sD, gD_sF, gD_sA, gD_uA, gD_sD]) ?_
              refine pw_icmp_ge r_12_clash_50 (fun h50 => ?_) (fun h50 => ?_)
              · skip
                refine pw_iinc (b := 0) (ls' := [some (vR 12 (0)), some (vI (k)), some (vI (n)), some (vI (f)), some (vI (s)), some (vI ((a + 1))), some (vI (b))]) r_12_clash_107 rfl rfl (by omega) rfl ?_
                refine pw_goto r_12_clash_110 ?_
                refine pw_weakL (ls' := [some (vR 12 (0)), some (vI (k)), some (vI (n)), some (vI (f)), some (vI (s)), some (vI ((a + 1))), none]) (⟨rfl, ⟨rfl, ⟨rfl, ⟨rfl, ⟨rfl, ⟨rfl, trivial⟩⟩⟩⟩⟩⟩) ?_
                exact ih23 ((a + 1)) (n) (f) (s) (z) (J1) (by omega) (by omega) (by rw [show b = (gF G 12 0 55) by omega] at hm; rw [clS_s ha.1]; exact hm) (hG.imp (fun q => ⟨clN_s q.1 (fun y y0 y1 => q.2.1 y y0 (by omega)), q.2.2⟩) id) (by omega)
              · skip
                have hJb := hJ b (by omega) (show b < (gF G 12 0 55) by omega)
                refine pw_aload r_12_clash_53 rfl ?_
                refine pw_getR r_12_clash_54 fs_12_59 (by decide) ?_
                refine pw_iload r_12_clash_57 rfl ?_
                refine pw_zaldv (v := (J1) (b)) r_12_clash_59 sh241 (by omega) (by omega) (by first | rfl | simp [gF_sF, gF_sA, gF_uA, gF_sD, gA_sF, gA_sA, gA_uA, gA_sD, gD_sF, gD_sA, gD_uA, gD_sD]) ?_
                refine pw_if_eq r_12_clash_60 (fun h60 => ?_) (fun h60 => ?_)
                · skip
                  have hno : ¬ (fun x y => Rch (surM G ln) (gF G 12 0 55) x y ∧ aptM G ln x y) a b := fun q => hJb.elim (fun w => by have := w.1; omega) (fun w => w.2 q.1)
                  refine pw_iinc (b := 0) (ls' := [some (vR 12 (0)), some (vI (k)), some (vI (n)), some (vI (f)), some (vI (s)), some (vI (a)), some (vI ((b + 1)))]) r_12_clash_101 rfl rfl (by omega) rfl ?_
                  refine pw_goto r_12_clash_104 ?_
                  exact ih44 ((b + 1)) (n) (f) (s) (z) (by omega) (by omega) (by first | (rw [cnt_t (by omega) ⟨by omega, hyes⟩]; omega) | (rw [cnt_f (by omega) (fun z => hno z.2)]; omega)) (by first | (exfalso; omega) | exact hG.imp (fun q => ⟨q.1, fun y y0 y1 => (Classical.em (y = b)).elim (fun w => by rw [w]; exact hno) (fun w => q.2.1 y y0 (by omega)), q.2.2⟩) id | (rcases hG with q | q; exact absurd q.2.2.1 (by omega); exact Or.inr ⟨by omega, q.2⟩) | (rcases hG with q | q; exact Or.inr ⟨by omega, clF_of ha.1 (by omega) (by omega) q.1 q.2.1 hyes⟩; exact absurd q.1 (by omega))) (by omega)
                · skip
                  refine pw_aload r_12_clash_63 rfl ?_
                  refine pw_iload r_12_clash_64 rfl ?_
                  refine pw_iload r_12_clash_66 rfl ?_
                  refine pw_callV (av := [vI (a), vI (b)]) (st := []) (ls0 := [some (vR 12 (0)), some (vI (a)), some (vI (b)), none]) r_12_clash_68 rfl rfl rfl (Nat.le_refl _) ?_
                  refine sp_X12_mustBeApart (ln := ln) (hrw) (hrm) (⟨by omega, show a < (gF G 12 0 55) by omega⟩) (⟨by omega, show b < (gF G 12 0 55) by omega⟩) ?_
                  intro z2
                  refine pw_if_eqB r_12_clash_71 (fun h71 => ?_) (fun h71 => ?_)
                  · skip
                    have hno : ¬ (fun x y => Rch (surM G ln) (gF G 12 0 55) x y ∧ aptM G ln x y) a b := fun q => h71 q.2
                    refine pw_iinc (b := 0) (ls' := [some (vR 12 (0)), some (vI (k)), some (vI (n)), some (vI (f)), some (vI (s)), some (vI (a)), some (vI ((b + 1)))]) r_12_clash_101 rfl rfl (by omega) rfl ?_
                    refine pw_goto r_12_clash_104 ?_
                    refine pw_eqG (G' := sF (uA G 241 (0) (J1)) 12 (0) 58 (z2)) (by first | rfl | (rw [uA_self]; done) | (rw [sA_uA]; done) | (rw [sA_eq]; done) | (simp (disch := decide) only [sA_uA, sA_uA_ne, uA_abs, uA_abs2, uA_uA]; done) | (simp (disch := decide) only [sA_eq, sA_uA, sA_uA_ne, uA_abs, uA_abs2, uA_uA]; done) | (refine PH_ext (fun _ _ _ => ?_) (fun _ _ _ => ?_) (fun _ _ _ => ?_) <;> simp only [gF_sF, gF_sA, gF_uA, gF_sD, gA_sF, gA_sA, gA_uA, gA_sD, gD_sF, gD_sA, gD_uA, gD_sD] <;> (repeat' split) <;> first | rfl | (exfalso; omega) | simp_all)) ?_
                    exact ih44 ((b + 1)) (n) (f) (s) (z2) (by omega) (by omega) (by first | (rw [cnt_t (by omega) ⟨by omega, hyes⟩]; omega) | (rw [cnt_f (by omega) (fun z => hno z.2)]; omega)) (by first | (exfalso; omega) | exact hG.imp (fun q => ⟨q.1, fun y y0 y1 => (Classical.em (y = b)).elim (fun w => by rw [w]; exact hno) (fun w => q.2.1 y y0 (by omega)), q.2.2⟩) id | (rcases hG with q | q; exact absurd q.2.2.1 (by omega); exact Or.inr ⟨by omega, q.2⟩) | (rcases hG with q | q; exact Or.inr ⟨by omega, clF_of ha.1 (by omega) (by omega) q.1 q.2.1 hyes⟩; exact absurd q.1 (by omega))) (by omega)
                  · skip
                    have hyes : (fun x y => Rch (surM G ln) (gF G 12 0 55) x y ∧ aptM G ln x y) a b := ⟨hJb.elim (fun w => w.2) (fun w => by have := w.1; omega), h71⟩
                    refine pw_iload r_12_clash_74 rfl ?_
                    refine pw_if_ne r_12_clash_75 (fun h75 => ?_) (fun h75 => ?_)
                    · skip
                      refine pw_iload r_12_clash_83 rfl ?_
                      refine pw_istore (ls' := [some (vR 12 (0)), some (vI (k)), some (vI (n)), some (vI (f)), some (vI (s)), some (vI (a)), some (vI (b))]) r_12_clash_84 rfl rfl ?_
                      refine pw_iload r_12_clash_85 rfl ?_
                      refine pw_if_ne r_12_clash_86 (fun h86 => ?_) (fun h86 => ?_)
                      · skip
                        refine pw_iload r_12_clash_94 rfl ?_
                        refine pw_istore (ls' := [some (vR 12 (0)), some (vI (k)), some (vI (n)), some (vI (f)), some (vI (s)), some (vI (a)), some (vI (b))]) r_12_clash_96 rfl rfl ?_
                        refine pw_iinc (b := 0) (ls' := [some (vR 12 (0)), some (vI (k)), some (vI ((n + 1))), some (vI (f)), some (vI (s)), some (vI (a)), some (vI (b))]) r_12_clash_98 rfl rfl (by omega) rfl ?_
                        refine pw_iinc (b := 0) (ls' := [some (vR 12 (0)), some (vI (k)), some (vI ((n + 1))), some (vI (f)), some (vI (s)), some (vI (a)), some (vI ((b + 1)))]) r_12_clash_101 rfl rfl (by omega) rfl ?_
                        refine pw_goto r_12_clash_104 ?_
                        refine pw_eqG (G' := sF (uA G 241 (0) (J1)) 12 (0) 58 (z2)) (by first | rfl | (rw [uA_self]; done) | (rw [sA_uA]; done) | (rw [sA_eq]; done) | (simp (disch := decide) only [sA_uA, sA_uA_ne, uA_abs, uA_abs2, uA_uA]; done) | (simp (disch := decide) only [sA_eq, sA_uA, sA_uA_ne, uA_abs, uA_abs2, uA_uA]; done) | (refine PH_ext (fun _ _ _ => ?_) (fun _ _ _ => ?_) (fun _ _ _ => ?_) <;> simp only [gF_sF, gF_sA, gF_uA, gF_sD, gA_sF, gA_sA, gA_uA, gA_sD, gD_sF, gD_sA, gD_uA, gD_sD] <;> (repeat' split) <;> first | rfl | (exfalso; omega) | simp_all)) ?_
                        exact ih44 ((b + 1)) ((n + 1)) (f) (s) (z2) (by omega) (by omega) (by first | (rw [cnt_t (by omega) ⟨by omega, hyes⟩]; omega) | (rw [cnt_f (by omega) (fun z => hno z.2)]; omega)) (by first | (exfalso; omega) | exact hG.imp (fun q => ⟨q.1, fun y y0 y1 => (Classical.em (y = b)).elim (fun w => by rw [w]; exact hno) (fun w => q.2.1 y y0 (by omega)), q.2.2⟩) id | (rcases hG with q | q; exact absurd q.2.2.1 (by omega); exact Or.inr ⟨by omega, q.2⟩) | (rcases hG with q | q; exact Or.inr ⟨by omega, clF_of ha.1 (by omega) (by omega) q.1 q.2.1 hyes⟩; exact absurd q.1 (by omega))) (by omega)
                      · skip
                        refine pw_iload r_12_clash_89 rfl ?_
                        refine pw_goto r_12_clash_91 ?_
                        refine pw_istore (ls' := [some (vR 12 (0)), some (vI (k)), some (vI (n)), some (vI (f)), some (vI (b)), some (vI (a)), some (vI (b))]) r_12_clash_96 rfl rfl ?_
                        refine pw_iinc (b := 0) (ls' := [some (vR 12 (0)), some (vI (k)), some (vI ((n + 1))), some (vI (f)), some (vI (b)), some (vI (a)), some (vI (b))]) r_12_clash_98 rfl rfl (by omega) rfl ?_
                        refine pw_iinc (b := 0) (ls' := [some (vR 12 (0)), some (vI (k)), some (vI ((n + 1))), some (vI (f)), some (vI (b)), some (vI (a)), some (vI ((b + 1)))]) r_12_clash_101 rfl rfl (by omega) rfl ?_
                        refine pw_goto r_12_clash_104 ?_
                        refine pw_eqG (G' := sF (uA G 241 (0) (J1)) 12 (0) 58 (z2)) (by first | rfl | (rw [uA_self]; done) | (rw [sA_uA]; done) | (rw [sA_eq]; done) | (simp (disch := decide) only [sA_uA, sA_uA_ne, uA_abs, uA_abs2, uA_uA]; done) | (simp (disch := decide) only [sA_eq, sA_uA, sA_uA_ne, uA_abs, uA_abs2, uA_uA]; done) | (refine PH_ext (fun _ _ _ => ?_) (fun _ _ _ => ?_) (fun _ _ _ => ?_) <;> simp only [gF_sF, gF_sA, gF_uA, gF_sD, gA_sF, gA_sA, gA_uA, gA_sD, gD_sF, gD_sA, gD_uA, gD_sD] <;> (repeat' split) <;> first | rfl | (exfalso; omega) | simp_all)) ?_
                        exact ih44 ((b + 1)) ((n + 1)) (f) (b) (z2) (by omega) (by omega) (by first | (rw [cnt_t (by omega) ⟨by omega, hyes⟩]; omega) | (rw [cnt_f (by omega) (fun z => hno z.2)]; omega)) (by first | (exfalso; omega) | exact hG.imp (fun q => ⟨q.1, fun y y0 y1 => (Classical.em (y = b)).elim (fun w => by rw [w]; exact hno) (fun w => q.2.1 y y0 (by omega)), q.2.2⟩) id | (rcases hG with q | q; exact absurd q.2.2.1 (by omega); exact Or.inr ⟨by omega, q.2⟩) | (rcases hG with q | q; exact Or.inr ⟨by omega, clF_of ha.1 (by omega) (by omega) q.1 q.2.1 hyes⟩; exact absurd q.1 (by omega))) (by omega)
                    · skip
                      refine pw_iload r_12_clash_78 rfl ?_
                      refine pw_goto r_12_clash_80 ?_
                      refine pw_istore (ls' := [some (vR 12 (0)), some (vI (k)), some (vI (n)), some (vI (a)), some (vI (s)), some (vI (a)), some (vI (b))]) r_12_clash_84 rfl rfl ?_
                      refine pw_iload r_12_clash_85 rfl ?_
                      refine pw_if_ne r_12_clash_86 (fun h86 => ?_) (fun h86 => ?_)
                      · skip
                        refine pw_iload r_12_clash_94 rfl ?_
                        refine pw_istore (ls' := [some (vR 12 (0)), some (vI (k)), some (vI (n)), some (vI (a)), some (vI (s)), some (vI (a)), some (vI (b))]) r_12_clash_96 rfl rfl ?_
                        refine pw_iinc (b := 0) (ls' := [some (vR 12 (0)), some (vI (k)), some (vI ((n + 1))), some (vI (a)), some (vI (s)), some (vI (a)), some (vI (b))]) r_12_clash_98 rfl rfl (by omega) rfl ?_
                        refine pw_iinc (b := 0) (ls' := [some (vR 12 (0)), some (vI (k)), some (vI ((n + 1))), some (vI (a)), some (vI (s)), some (vI (a)), some (vI ((b + 1)))]) r_12_clash_101 rfl rfl (by omega) rfl ?_
                        refine pw_goto r_12_clash_104 ?_
                        refine pw_eqG (G' := sF (uA G 241 (0) (J1)) 12 (0) 58 (z2)) (by first | rfl | (rw [uA_self]; done) | (rw [sA_uA]; done) | (rw [sA_eq]; done) | (simp (disch := decide) only [sA_uA, sA_uA_ne, uA_abs, uA_abs2, uA_uA]; done) | (simp (disch := decide) only [sA_eq, sA_uA, sA_uA_ne, uA_abs, uA_abs2, uA_uA]; done) | (refine PH_ext (fun _ _ _ => ?_) (fun _ _ _ => ?_) (fun _ _ _ => ?_) <;> simp only [gF_sF, gF_sA, gF_uA, gF_sD, gA_sF, gA_sA, gA_uA, gA_sD, gD_sF, gD_sA, gD_uA, gD_sD] <;> (repeat' split) <;> first | rfl | (exfalso; omega) | simp_all)) ?_
                        exact ih44 ((b + 1)) ((n + 1)) (a) (s) (z2) (by omega) (by omega) (by first | (rw [cnt_t (by omega) ⟨by omega, hyes⟩]; omega) | (rw [cnt_f (by omega) (fun z => hno z.2)]; omega)) (by first | (exfalso; omega) | exact hG.imp (fun q => ⟨q.1, fun y y0 y1 => (Classical.em (y = b)).elim (fun w => by rw [w]; exact hno) (fun w => q.2.1 y y0 (by omega)), q.2.2⟩) id | (rcases hG with q | q; exact absurd q.2.2.1 (by omega); exact Or.inr ⟨by omega, q.2⟩) | (rcases hG with q | q; exact Or.inr ⟨by omega, clF_of ha.1 (by omega) (by omega) q.1 q.2.1 hyes⟩; exact absurd q.1 (by omega))) (by omega)
                      · skip
                        refine pw_iload r_12_clash_89 rfl ?_
                        refine pw_goto r_12_clash_91 ?_
                        refine pw_istore (ls' := [some (vR 12 (0)), some (vI (k)), some (vI (n)), some (vI (a)), some (vI (b)), some (vI (a)), some (vI (b))]) r_12_clash_96 rfl rfl ?_
                        refine pw_iinc (b := 0) (ls' := [some (vR 12 (0)), some (vI (k)), some (vI ((n + 1))), some (vI (a)), some (vI (b)), some (vI (a)), some (vI (b))]) r_12_clash_98 rfl rfl (by omega) rfl ?_
                        refine pw_iinc (b := 0) (ls' := [some (vR 12 (0)), some (vI (k)), some (vI ((n + 1))), some (vI (a)), some (vI (b)), some (vI (a)), some (vI ((b + 1)))]) r_12_clash_101 rfl rfl (by omega) rfl ?_
                        refine pw_goto r_12_clash_104 ?_
                        refine pw_eqG (G' := sF (uA G 241 (0) (J1)) 12 (0) 58 (z2)) (by first | rfl | (rw [uA_self]; done) | (rw [sA_uA]; done) | (rw [sA_eq]; done) | (simp (disch := decide) only [sA_uA, sA_uA_ne, uA_abs, uA_abs2, uA_uA]; done) | (simp (disch := decide) only [sA_eq, sA_uA, sA_uA_ne, uA_abs, uA_abs2, uA_uA]; done) | (refine PH_ext (fun _ _ _ => ?_) (fun _ _ _ => ?_) (fun _ _ _ => ?_) <;> simp only [gF_sF, gF_sA, gF_uA, gF_sD, gA_sF, gA_sA, gA_uA, gA_sD, gD_sF, gD_sA, gD_uA, gD_sD] <;> (repeat' split) <;> first | rfl | (exfalso; omega) | simp_all)) ?_
                        exact ih44 ((b + 1)) ((n + 1)) (a) (b) (z2) (by omega) (by omega) (by first | (rw [cnt_t (by omega) ⟨by omega, hyes⟩]; omega) | (rw [cnt_f (by omega) (fun z => hno z.2)]; omega)) (by first | (exfalso; omega) | exact hG.imp (fun q => ⟨q.1, fun y y0 y1 => (Classical.em (y = b)).elim (fun w => by rw [w]; exact hno) (fun w => q.2.1 y y0 (by omega)), q.2.2⟩) id | (rcases hG with q | q; exact absurd q.2.2.1 (by omega); exact Or.inr ⟨by omega, q.2⟩) | (rcases hG with q | q; exact Or.inr ⟨by omega, clF_of ha.1 (by omega) (by omega) q.1 q.2.1 hyes⟩; exact absurd q.1 (by omega))) (by omega)
          refine pw_eqG (G' := sF (uA G 241 (0) (J1)) 12 (0) 58 (z1)) (by first | rfl | (rw [uA_self]; done) | (rw [sA_uA]; done) | (rw [sA_eq]; done) | (simp (disch := decide) only [sA_uA, sA_uA_ne, uA_abs, uA_abs2, uA_uA]; done) | (simp (disch := decide) only [sA_eq, sA_uA, sA_uA_ne, uA_abs, uA_abs2, uA_uA]; done) | (refine PH_ext (fun _ _ _ => ?_) (fun _ _ _ => ?_) (fun _ _ _ => ?_) <;> simp only [gF_sF, gF_sA, gF_uA, gF_sD, gA_sF, gA_sA, gA_uA, gA_sD, gD_sF, gD_sA, gD_uA, gD_sD] <;> (repeat' split) <;> first | rfl | (exfalso; omega) | simp_all)) ?_
          exact L44 _ ((a + 1)) (n) (f) (s) (z1) (by omega) (by omega) (by rw [cnt_none (by omega) (fun y y0 y1 z => by have := z.1; omega)]; omega) (hF.imp (fun q => ⟨q.1, fun y y0 y1 => by omega, q.2⟩) id) (Nat.lt_succ_self _)
    refine pw_eqG (G' := sF (uA G 241 (0) (gA G 241 0)) 12 (0) 58 (gF G 12 0 58)) (by rw [uA_self, sF_self]) ?_
    exact L23 _ (0) (0) ((-4)) ((-4)) (gF G 12 0 58) (gA G 241 0) (by omega) (by omega) (rfl) (Or.inl ⟨fun x y x0 x1 => by omega, rfl, rfl, rfl⟩) (Nat.lt_succ_self _)
  · skip
    refine pw_const r_12_clash_9 ?_
    refine pw_iret r_12_clash_10 rfl (Nat.le_refl _) ⟨rfl, ?_⟩
    exact h1 (by omega)
set_option maxRecDepth 10000 in
theorem sp_X11_joined {l : Launch} {w : Wo} {d : Nat} {G : PH} {P : Option PV → PH → Prop} {r : Int} (hrw : 0 ≤ (gF G 5 0 0) ∧ (gF G 5 0 0) ≤ 100) (hrc : rowsC G) (hsy : symE (surC G) (gF G 5 0 0)) (h1 : ¬ (0 ≤ r ∧ r < (gF G 5 0 0)) → P (some (vI (-1))) G) (h2 : (0 ≤ r ∧ r < (gF G 5 0 0)) → ∀ F R, P (some (vI (cnt (fun k => Rch (surC G) (gF G 5 0 0) r k) (gF G 5 0 0)))) (uA (uA G 54 0 (F)) 55 0 (R))) : PW l w M_X11_joined (d + 7) 0 [some (vR 11 (0)), some (vI (r))] [] G P := by
  refine pw_aload r_11_joined_0 rfl ?_
  refine pw_getR r_11_joined_1 fs_11_4 (by decide) ?_
  refine pw_iload r_11_joined_4 rfl ?_
  refine pw_callV (av := [vI (r)]) (st := []) (ls0 := [some (vR 5 (0)), some (vI (r)), none, none]) r_11_joined_5 rfl rfl rfl (Nat.le_refl _) ?_
  refine sp_X5_countJoined (by first | assumption | exact hrw | omega) (by first | assumption | exact hrc | omega) (by first | assumption | exact hsy | omega) ?_ ?_
  · skip
    intro q1
    refine pw_iret r_11_joined_8 rfl (Nat.le_refl _) ⟨rfl, ?_⟩
    exact h1 q1
  · skip
    intro q1 F R
    refine pw_iret r_11_joined_8 rfl (Nat.le_refl _) ⟨rfl, ?_⟩
    exact h2 q1 F R
set_option maxRecDepth 10000 in
theorem sp_X11_clash {l : Launch} {w : Wo} {d : Nat} {G : PH} {P : Option PV → PH → Prop} {k : Int} (hrw : 0 ≤ (gF G 5 0 0) ∧ (gF G 5 0 0) ≤ 100) (hrc : rowsC G) (hsy : symE (surC G) (gF G 5 0 0)) (h1 : ¬ (0 ≤ k ∧ k ≤ 2) → P (some (vI (-1))) G) (h2 : (0 ≤ k ∧ k ≤ 2) → ∀ F R v, clV (fun x y => Rch (surC G) (gF G 5 0 0) x y ∧ aptC G x y) (gF G 5 0 0) k v → P (some (vI v)) (uA (uA G 54 0 (F)) 55 0 (R))) : PW l w M_X11_clash (d + 7) 0 [some (vR 11 (0)), some (vI (k))] [] G P := by
  refine pw_aload r_11_clash_0 rfl ?_
  refine pw_getR r_11_clash_1 fs_11_4 (by decide) ?_
  refine pw_iload r_11_clash_4 rfl ?_
  refine pw_callV (av := [vI (k)]) (st := []) (ls0 := [some (vR 5 (0)), some (vI (k)), none, none, none]) r_11_clash_5 rfl rfl rfl (Nat.le_refl _) ?_
  refine sp_X5_tellClash (by first | assumption | exact hrw | omega) (by first | assumption | exact hrc | omega) (by first | assumption | exact hsy | omega) ?_ ?_
  · skip
    intro q1
    refine pw_iret r_11_clash_8 rfl (Nat.le_refl _) ⟨rfl, ?_⟩
    exact h1 q1
  · skip
    intro q1 F R v q2
    refine pw_iret r_11_clash_8 rfl (Nat.le_refl _) ⟨rfl, ?_⟩
    exact h2 q1 F R v q2

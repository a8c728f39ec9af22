theorem sA_uA_row (G : PH) (c : Nat) (r r1 i v : Int) (f : Int → Int) (h : r ≠ r1) : sA (uA G c r f) c r1 i v = uA (sA G c r1 i v) c r f := by
  refine Prod.ext rfl (Prod.ext (funext fun c' => funext fun r' => funext fun i' => ?_) rfl)
  show (if c' = c ∧ r' = r1 ∧ i' = i then v else (if c' = c ∧ r' = r then f else G.2.1 c' r') i') = (if c' = c ∧ r' = r then f else fun i' => if c' = c ∧ r' = r1 ∧ i' = i then v else G.2.1 c' r' i') i'
  by_cases z : c' = c ∧ r' = r
  · rw [if_pos z, if_pos z, if_neg (fun x => h (z.2.symm.trans x.2.1))]
  · rw [if_neg z, if_neg z]
abbrev BS : Type := Int × Int × Int × Int
noncomputable def bstS (OK : Int → Int → Prop) (a b : Int) (s : BS) : BS := @ite _ ((s.1 < pcF a + pcF b ∨ (pcF a + pcF b = s.1 ∧ absI (pcF a - pcF b) < s.2.1)) ∧ OK a b) (Classical.propDecidable _) (pcF a + pcF b, absI (pcF a - pcF b), a, b) s
noncomputable def bstB (OK : Int → Int → Prop) (n1 a : Int) (s : BS) : BS := iterI (fun b => bstS OK a b) n1 s
noncomputable def bstF (OK : Int → Int → Prop) (n0 n1 : Int) (s : BS) : BS := iterI (fun a => bstB OK n1 a) n0 s
theorem bst_t {OK : Int → Int → Prop} {a b : Int} {s : BS} (h : (s.1 < pcF a + pcF b ∨ (pcF a + pcF b = s.1 ∧ absI (pcF a - pcF b) < s.2.1)) ∧ OK a b) : bstS OK a b s = (pcF a + pcF b, absI (pcF a - pcF b), a, b) := if_pos h
theorem bst_f {OK : Int → Int → Prop} {a b : Int} {s : BS} (h : ¬ ((s.1 < pcF a + pcF b ∨ (pcF a + pcF b = s.1 ∧ absI (pcF a - pcF b) < s.2.1)) ∧ OK a b)) : bstS OK a b s = s := if_neg h
theorem pc_in {a : Int} : 0 ≤ pcF a ∧ pcF a ≤ 7 := by unfold pcF; omega
def ltC (G : PH) (ST : Int → Int → Int → Prop) (WT : Int → Int → Int → Int → Int) (a b : Int) : Prop := okC G ST 0 a ∧ okC G ST 1 b ∧ wfC G WT 0 0 a ≤ wfC G WT 1 0 b ∧ wfC G WT 1 1 b ≤ wfC G WT 0 1 a
theorem let_iff {m0 m1 s00 s01 s10 s11 u00 u01 u10 u11 : Int} {P0 P1 A0 A1 : Prop} (h0 : m0 = b2i P0) (h1 : m1 = b2i P1) (p0 : P0 → ¬ A0) (p1 : P1 → ¬ A1) (e0 : ¬ A0 → s00 = u00 ∧ s01 = u01) (e1 : ¬ A1 → s10 = u10 ∧ s11 = u11) : (m0 = 1 ∧ m1 = 1 ∧ s00 ≤ s10 ∧ s11 ≤ s01) ↔ (P0 ∧ P1 ∧ u00 ≤ u10 ∧ u11 ≤ u01) := by
  have q0 : m0 = 1 ↔ P0 := by
    rw [h0]
    by_cases z : P0
    · rw [b2i_t z]; exact ⟨fun _ => z, fun _ => rfl⟩
    · rw [b2i_f z]; exact ⟨fun y => absurd y (by decide), fun y => absurd y z⟩
  have q1 : m1 = 1 ↔ P1 := by
    rw [h1]
    by_cases z : P1
    · rw [b2i_t z]; exact ⟨fun _ => z, fun _ => rfl⟩
    · rw [b2i_f z]; exact ⟨fun y => absurd y (by decide), fun y => absurd y z⟩
  rw [q0, q1]
  constructor
  · rintro ⟨a, b, c, d⟩
    have y0 := e0 (p0 a)
    have y1 := e1 (p1 b)
    exact ⟨a, b, by omega, by omega⟩
  · rintro ⟨a, b, c, d⟩
    have y0 := e0 (p0 a)
    have y1 := e1 (p1 b)
    exact ⟨a, b, by omega, by omega⟩
theorem shl_in {n : Int} (h : 0 ≤ n ∧ n ≤ 7) : 1 ≤ pShl 1 n ∧ pShl 1 n ≤ 128 := by
  have key : ∀ j : Nat, j < 8 → 1 ≤ pShl 1 j ∧ pShl 1 j ≤ 128 := by decide +kernel
  have := key n.toNat (by omega)
  rwa [Int.toNat_of_nonneg h.1] at this

theorem wd_f10_44 : Cond.fieldLink "NameRolls$Trade" 44 "NameRolls$Trade" "mayGo" "[[I" ∈ UW := UW2_at 85 (by decide +kernel) rfl
theorem wd_f10_41 : Cond.fieldLink "NameRolls$Trade" 41 "NameRolls$Trade" "sums" "[[I" ∈ UW := UW2_at 84 (by decide +kernel) rfl
theorem wd_m10_141 : Cond.methodLink "NameRolls$Trade" 141 M_X10_weighSets.1 ∈ UW := UW6_at 11 (by decide +kernel) rfl
theorem wd_s10_weighSets : Cond.selects M_X10_weighSets.1.cls M_X10_weighSets.1 M_X10_weighSets.1 ∈ UW := UWp_at 40 (by decide +kernel) rfl
theorem wd_m10_145 : Cond.methodLink "NameRolls$Trade" 145 M_J_bitCount.1 ∈ UW := UW6_at 15 (by decide +kernel) rfl
theorem wd_m10_150 : Cond.methodLink "NameRolls$Trade" 150 Lib.Math.abs.name ∈ UW := UW6_at 21 (by decide +kernel) rfl
theorem wd_m10_153 : Cond.methodLink "NameRolls$Trade" 153 M_X10_isLet.1 ∈ UW := UW6_at 22 (by decide +kernel) rfl
theorem wd_s10_isLet : Cond.selects M_X10_isLet.1.cls M_X10_isLet.1 M_X10_isLet.1 ∈ UW := UWp_at 41 (by decide +kernel) rfl
theorem wd_m11_187 : Cond.methodLink "NameRolls" 187 M_X10_chooseBest.1 ∈ UW := UW6_at 7 (by decide +kernel) rfl
theorem wd_s10_chooseBest : Cond.selects M_X10_chooseBest.1.cls M_X10_chooseBest.1 M_X10_chooseBest.1 ∈ UW := UW6_at 9 (by decide +kernel) rfl
theorem r_10_weighSets_0 : RC M_X10_weighSets 0 0 1 := ⟨⟨by decide, by decide⟩, Or.inl ⟨by decide +kernel, rfl⟩⟩
theorem r_10_weighSets_1 : RS M_X10_weighSets 1 2 2 := ⟨by decide, Or.inl ⟨2, by decide +kernel, rfl, rfl⟩⟩
theorem r_10_weighSets_2 : RA M_X10_weighSets 2 0 3 := Or.inl ⟨0, by decide +kernel, rfl, rfl⟩
theorem r_10_weighSets_3 : RL M_X10_weighSets 3 1 4 := Or.inl ⟨1, by decide +kernel, rfl, rfl⟩
theorem r_10_weighSets_4 : RL M_X10_weighSets 4 2 5 := Or.inl ⟨2, by decide +kernel, rfl, rfl⟩
theorem r_10_weighSets_5 : RKv M_X10_weighSets M_X10_isSetOf 5 2 10 8 := ⟨98, by decide +kernel, wd_m10_98, ok_M_X10_isSetOf, wd_s10_isSetOf, rfl⟩
theorem r_10_weighSets_8 : RB M_X10_weighSets 8 (.ifCond .eq) 121 11 := ⟨113, by decide +kernel, rfl, rfl⟩
theorem r_10_weighSets_121 : RW M_X10_weighSets 121 .return_ 122 1 := ⟨by decide +kernel, rfl⟩
theorem r_10_weighSets_11 : RL M_X10_weighSets 11 2 12 := Or.inl ⟨2, by decide +kernel, rfl, rfl⟩
theorem r_10_weighSets_12 : RC M_X10_weighSets 12 128 15 := ⟨⟨by decide, by decide⟩, Or.inr (Or.inr (Or.inl ⟨by decide +kernel, by decide, rfl⟩))⟩
theorem r_10_weighSets_15 : RB M_X10_weighSets 15 (.if_icmp .ge) 121 18 := ⟨106, by decide +kernel, rfl, rfl⟩
theorem r_10_weighSets_18 : RA M_X10_weighSets 18 0 19 := Or.inl ⟨0, by decide +kernel, rfl, rfl⟩
theorem r_10_weighSets_19 : RL M_X10_weighSets 19 1 20 := Or.inl ⟨1, by decide +kernel, rfl, rfl⟩
theorem r_10_weighSets_20 : RL M_X10_weighSets 20 2 21 := Or.inl ⟨2, by decide +kernel, rfl, rfl⟩
theorem r_10_weighSets_21 : RC M_X10_weighSets 21 1 22 := ⟨⟨by decide, by decide⟩, Or.inl ⟨by decide +kernel, rfl⟩⟩
theorem r_10_weighSets_22 : RKv M_X10_weighSets M_X10_isBarred 22 3 10 25 := ⟨105, by decide +kernel, wd_m10_105, ok_M_X10_isBarred, wd_s10_isBarred, rfl⟩
theorem r_10_weighSets_25 : RB M_X10_weighSets 25 (.ifCond .ne) 56 28 := ⟨31, by decide +kernel, rfl, rfl⟩
theorem r_10_weighSets_56 : RC M_X10_weighSets 56 1 57 := ⟨⟨by decide, by decide⟩, Or.inl ⟨by decide +kernel, rfl⟩⟩
theorem r_10_weighSets_57 : RB M_X10_weighSets 57 .goto 61 60 := ⟨4, by decide +kernel, rfl, rfl⟩
theorem r_10_weighSets_61 : RS M_X10_weighSets 61 3 62 := ⟨by decide, Or.inl ⟨3, by decide +kernel, rfl, rfl⟩⟩
theorem r_10_weighSets_62 : RA M_X10_weighSets 62 0 63 := Or.inl ⟨0, by decide +kernel, rfl, rfl⟩
theorem r_10_weighSets_63 : RG M_X10_weighSets 63 10 11 66 := ⟨44, _, by decide +kernel, rfl, by decide, wd_f10_44, rfl, rfl⟩
theorem r_10_weighSets_66 : RL M_X10_weighSets 66 1 67 := Or.inl ⟨1, by decide +kernel, rfl, rfl⟩
theorem r_10_weighSets_67 : RW M_X10_weighSets 67 .aaload 68 1 := ⟨by decide +kernel, rfl⟩
theorem r_10_weighSets_68 : RL M_X10_weighSets 68 2 69 := Or.inl ⟨2, by decide +kernel, rfl, rfl⟩
theorem r_10_weighSets_69 : RL M_X10_weighSets 69 3 70 := Or.inl ⟨3, by decide +kernel, rfl, rfl⟩
theorem r_10_weighSets_70 : RB M_X10_weighSets 70 (.ifCond .eq) 77 73 := ⟨7, by decide +kernel, rfl, rfl⟩
theorem r_10_weighSets_73 : RC M_X10_weighSets 73 0 74 := ⟨⟨by decide, by decide⟩, Or.inl ⟨by decide +kernel, rfl⟩⟩
theorem r_10_weighSets_74 : RB M_X10_weighSets 74 .goto 78 77 := ⟨4, by decide +kernel, rfl, rfl⟩
theorem r_10_weighSets_78 : RW M_X10_weighSets 78 .iastore 79 1 := ⟨by decide +kernel, rfl⟩
theorem r_10_weighSets_79 : RA M_X10_weighSets 79 0 80 := Or.inl ⟨0, by decide +kernel, rfl, rfl⟩
theorem r_10_weighSets_80 : RG M_X10_weighSets 80 10 10 83 := ⟨41, _, by decide +kernel, rfl, by decide, wd_f10_41, rfl, rfl⟩
theorem r_10_weighSets_83 : RC M_X10_weighSets 83 2 84 := ⟨⟨by decide, by decide⟩, Or.inl ⟨by decide +kernel, rfl⟩⟩
theorem r_10_weighSets_84 : RL M_X10_weighSets 84 1 85 := Or.inl ⟨1, by decide +kernel, rfl, rfl⟩
theorem r_10_weighSets_85 : RW M_X10_weighSets 85 .imul 86 1 := ⟨by decide +kernel, rfl⟩
theorem r_10_weighSets_86 : RW M_X10_weighSets 86 .aaload 87 1 := ⟨by decide +kernel, rfl⟩
theorem r_10_weighSets_87 : RL M_X10_weighSets 87 2 88 := Or.inl ⟨2, by decide +kernel, rfl, rfl⟩
theorem r_10_weighSets_88 : RA M_X10_weighSets 88 0 89 := Or.inl ⟨0, by decide +kernel, rfl, rfl⟩
theorem r_10_weighSets_89 : RL M_X10_weighSets 89 1 90 := Or.inl ⟨1, by decide +kernel, rfl, rfl⟩
theorem r_10_weighSets_90 : RL M_X10_weighSets 90 2 91 := Or.inl ⟨2, by decide +kernel, rfl, rfl⟩
theorem r_10_weighSets_91 : RC M_X10_weighSets 91 0 92 := ⟨⟨by decide, by decide⟩, Or.inl ⟨by decide +kernel, rfl⟩⟩
theorem r_10_weighSets_92 : RKv M_X10_weighSets M_X10_sumWorth 92 3 10 95 := ⟨108, by decide +kernel, wd_m10_108, ok_M_X10_sumWorth, wd_s10_sumWorth, rfl⟩
theorem r_10_weighSets_95 : RW M_X10_weighSets 95 .iastore 96 1 := ⟨by decide +kernel, rfl⟩
theorem r_10_weighSets_96 : RA M_X10_weighSets 96 0 97 := Or.inl ⟨0, by decide +kernel, rfl, rfl⟩
theorem r_10_weighSets_97 : RG M_X10_weighSets 97 10 10 100 := ⟨41, _, by decide +kernel, rfl, by decide, wd_f10_41, rfl, rfl⟩
theorem r_10_weighSets_100 : RC M_X10_weighSets 100 2 101 := ⟨⟨by decide, by decide⟩, Or.inl ⟨by decide +kernel, rfl⟩⟩
theorem r_10_weighSets_101 : RL M_X10_weighSets 101 1 102 := Or.inl ⟨1, by decide +kernel, rfl, rfl⟩
theorem r_10_weighSets_102 : RW M_X10_weighSets 102 .imul 103 1 := ⟨by decide +kernel, rfl⟩
theorem r_10_weighSets_103 : RC M_X10_weighSets 103 1 104 := ⟨⟨by decide, by decide⟩, Or.inl ⟨by decide +kernel, rfl⟩⟩
theorem r_10_weighSets_104 : RW M_X10_weighSets 104 .iadd 105 1 := ⟨by decide +kernel, rfl⟩
theorem r_10_weighSets_105 : RW M_X10_weighSets 105 .aaload 106 1 := ⟨by decide +kernel, rfl⟩
theorem r_10_weighSets_106 : RL M_X10_weighSets 106 2 107 := Or.inl ⟨2, by decide +kernel, rfl, rfl⟩
theorem r_10_weighSets_107 : RA M_X10_weighSets 107 0 108 := Or.inl ⟨0, by decide +kernel, rfl, rfl⟩
theorem r_10_weighSets_108 : RL M_X10_weighSets 108 1 109 := Or.inl ⟨1, by decide +kernel, rfl, rfl⟩
theorem r_10_weighSets_109 : RL M_X10_weighSets 109 2 110 := Or.inl ⟨2, by decide +kernel, rfl, rfl⟩
theorem r_10_weighSets_110 : RC M_X10_weighSets 110 1 111 := ⟨⟨by decide, by decide⟩, Or.inl ⟨by decide +kernel, rfl⟩⟩
theorem r_10_weighSets_111 : RKv M_X10_weighSets M_X10_sumWorth 111 3 10 114 := ⟨108, by decide +kernel, wd_m10_108, ok_M_X10_sumWorth, wd_s10_sumWorth, rfl⟩
theorem r_10_weighSets_114 : RW M_X10_weighSets 114 .iastore 115 1 := ⟨by decide +kernel, rfl⟩
theorem r_10_weighSets_115 : RI M_X10_weighSets 115 2 1 118 := ⟨by decide, by decide +kernel, rfl⟩
theorem r_10_weighSets_118 : RB M_X10_weighSets 118 .goto 2 121 := ⟨(-116), by decide +kernel, rfl, rfl⟩
theorem r_10_weighSets_28 : RA M_X10_weighSets 28 0 29 := Or.inl ⟨0, by decide +kernel, rfl, rfl⟩
theorem r_10_weighSets_29 : RL M_X10_weighSets 29 1 30 := Or.inl ⟨1, by decide +kernel, rfl, rfl⟩
theorem r_10_weighSets_30 : RL M_X10_weighSets 30 2 31 := Or.inl ⟨2, by decide +kernel, rfl, rfl⟩
theorem r_10_weighSets_31 : RC M_X10_weighSets 31 2 32 := ⟨⟨by decide, by decide⟩, Or.inl ⟨by decide +kernel, rfl⟩⟩
theorem r_10_weighSets_32 : RKv M_X10_weighSets M_X10_isBarred 32 3 10 35 := ⟨105, by decide +kernel, wd_m10_105, ok_M_X10_isBarred, wd_s10_isBarred, rfl⟩
theorem r_10_weighSets_35 : RB M_X10_weighSets 35 (.ifCond .ne) 56 38 := ⟨21, by decide +kernel, rfl, rfl⟩
theorem r_10_weighSets_38 : RA M_X10_weighSets 38 0 39 := Or.inl ⟨0, by decide +kernel, rfl, rfl⟩
theorem r_10_weighSets_39 : RL M_X10_weighSets 39 1 40 := Or.inl ⟨1, by decide +kernel, rfl, rfl⟩
theorem r_10_weighSets_40 : RL M_X10_weighSets 40 2 41 := Or.inl ⟨2, by decide +kernel, rfl, rfl⟩
theorem r_10_weighSets_41 : RKv M_X10_weighSets M_X10_partsChild 41 2 10 44 := ⟨112, by decide +kernel, wd_m10_112, ok_M_X10_partsChild, wd_s10_partsChild, rfl⟩
theorem r_10_weighSets_44 : RB M_X10_weighSets 44 (.ifCond .ne) 56 47 := ⟨12, by decide +kernel, rfl, rfl⟩
theorem r_10_weighSets_47 : RA M_X10_weighSets 47 0 48 := Or.inl ⟨0, by decide +kernel, rfl, rfl⟩
theorem r_10_weighSets_48 : RL M_X10_weighSets 48 1 49 := Or.inl ⟨1, by decide +kernel, rfl, rfl⟩
theorem r_10_weighSets_49 : RL M_X10_weighSets 49 2 50 := Or.inl ⟨2, by decide +kernel, rfl, rfl⟩
theorem r_10_weighSets_50 : RKv M_X10_weighSets M_X10_lacksDoctors 50 2 10 53 := ⟨115, by decide +kernel, wd_m10_115, ok_M_X10_lacksDoctors, wd_s10_lacksDoctors, rfl⟩
theorem r_10_weighSets_53 : RB M_X10_weighSets 53 (.ifCond .eq) 60 56 := ⟨7, by decide +kernel, rfl, rfl⟩
theorem r_10_weighSets_60 : RC M_X10_weighSets 60 0 61 := ⟨⟨by decide, by decide⟩, Or.inl ⟨by decide +kernel, rfl⟩⟩
theorem r_10_weighSets_77 : RC M_X10_weighSets 77 1 78 := ⟨⟨by decide, by decide⟩, Or.inl ⟨by decide +kernel, rfl⟩⟩
theorem r_10_isLet_0 : RA M_X10_isLet 0 0 1 := Or.inl ⟨0, by decide +kernel, rfl, rfl⟩
theorem r_10_isLet_1 : RG M_X10_isLet 1 10 11 4 := ⟨44, _, by decide +kernel, rfl, by decide, wd_f10_44, rfl, rfl⟩
theorem r_10_isLet_4 : RC M_X10_isLet 4 0 5 := ⟨⟨by decide, by decide⟩, Or.inl ⟨by decide +kernel, rfl⟩⟩
theorem r_10_isLet_5 : RW M_X10_isLet 5 .aaload 6 1 := ⟨by decide +kernel, rfl⟩
theorem r_10_isLet_6 : RL M_X10_isLet 6 1 7 := Or.inl ⟨1, by decide +kernel, rfl, rfl⟩
theorem r_10_isLet_7 : RW M_X10_isLet 7 .iaload 8 1 := ⟨by decide +kernel, rfl⟩
theorem r_10_isLet_8 : RC M_X10_isLet 8 1 9 := ⟨⟨by decide, by decide⟩, Or.inl ⟨by decide +kernel, rfl⟩⟩
theorem r_10_isLet_9 : RB M_X10_isLet 9 (.if_icmp .ne) 66 12 := ⟨57, by decide +kernel, rfl, rfl⟩
theorem r_10_isLet_66 : RC M_X10_isLet 66 0 67 := ⟨⟨by decide, by decide⟩, Or.inl ⟨by decide +kernel, rfl⟩⟩
theorem r_10_isLet_67 : RW M_X10_isLet 67 .ireturn 68 1 := ⟨by decide +kernel, rfl⟩
theorem r_10_isLet_12 : RA M_X10_isLet 12 0 13 := Or.inl ⟨0, by decide +kernel, rfl, rfl⟩
theorem r_10_isLet_13 : RG M_X10_isLet 13 10 11 16 := ⟨44, _, by decide +kernel, rfl, by decide, wd_f10_44, rfl, rfl⟩
theorem r_10_isLet_16 : RC M_X10_isLet 16 1 17 := ⟨⟨by decide, by decide⟩, Or.inl ⟨by decide +kernel, rfl⟩⟩
theorem r_10_isLet_17 : RW M_X10_isLet 17 .aaload 18 1 := ⟨by decide +kernel, rfl⟩
theorem r_10_isLet_18 : RL M_X10_isLet 18 2 19 := Or.inl ⟨2, by decide +kernel, rfl, rfl⟩
theorem r_10_isLet_19 : RW M_X10_isLet 19 .iaload 20 1 := ⟨by decide +kernel, rfl⟩
theorem r_10_isLet_20 : RC M_X10_isLet 20 1 21 := ⟨⟨by decide, by decide⟩, Or.inl ⟨by decide +kernel, rfl⟩⟩
theorem r_10_isLet_21 : RB M_X10_isLet 21 (.if_icmp .ne) 66 24 := ⟨45, by decide +kernel, rfl, rfl⟩
theorem r_10_isLet_24 : RA M_X10_isLet 24 0 25 := Or.inl ⟨0, by decide +kernel, rfl, rfl⟩
theorem r_10_isLet_25 : RG M_X10_isLet 25 10 10 28 := ⟨41, _, by decide +kernel, rfl, by decide, wd_f10_41, rfl, rfl⟩
theorem r_10_isLet_28 : RC M_X10_isLet 28 0 29 := ⟨⟨by decide, by decide⟩, Or.inl ⟨by decide +kernel, rfl⟩⟩
theorem r_10_isLet_29 : RW M_X10_isLet 29 .aaload 30 1 := ⟨by decide +kernel, rfl⟩
theorem r_10_isLet_30 : RL M_X10_isLet 30 1 31 := Or.inl ⟨1, by decide +kernel, rfl, rfl⟩
theorem r_10_isLet_31 : RW M_X10_isLet 31 .iaload 32 1 := ⟨by decide +kernel, rfl⟩
theorem r_10_isLet_32 : RA M_X10_isLet 32 0 33 := Or.inl ⟨0, by decide +kernel, rfl, rfl⟩
theorem r_10_isLet_33 : RG M_X10_isLet 33 10 10 36 := ⟨41, _, by decide +kernel, rfl, by decide, wd_f10_41, rfl, rfl⟩
theorem r_10_isLet_36 : RC M_X10_isLet 36 2 37 := ⟨⟨by decide, by decide⟩, Or.inl ⟨by decide +kernel, rfl⟩⟩
theorem r_10_isLet_37 : RW M_X10_isLet 37 .aaload 38 1 := ⟨by decide +kernel, rfl⟩
theorem r_10_isLet_38 : RL M_X10_isLet 38 2 39 := Or.inl ⟨2, by decide +kernel, rfl, rfl⟩
theorem r_10_isLet_39 : RW M_X10_isLet 39 .iaload 40 1 := ⟨by decide +kernel, rfl⟩
theorem r_10_isLet_40 : RB M_X10_isLet 40 (.if_icmp .gt) 66 43 := ⟨26, by decide +kernel, rfl, rfl⟩
theorem r_10_isLet_43 : RA M_X10_isLet 43 0 44 := Or.inl ⟨0, by decide +kernel, rfl, rfl⟩
theorem r_10_isLet_44 : RG M_X10_isLet 44 10 10 47 := ⟨41, _, by decide +kernel, rfl, by decide, wd_f10_41, rfl, rfl⟩
theorem r_10_isLet_47 : RC M_X10_isLet 47 3 48 := ⟨⟨by decide, by decide⟩, Or.inl ⟨by decide +kernel, rfl⟩⟩
theorem r_10_isLet_48 : RW M_X10_isLet 48 .aaload 49 1 := ⟨by decide +kernel, rfl⟩
theorem r_10_isLet_49 : RL M_X10_isLet 49 2 50 := Or.inl ⟨2, by decide +kernel, rfl, rfl⟩
theorem r_10_isLet_50 : RW M_X10_isLet 50 .iaload 51 1 := ⟨by decide +kernel, rfl⟩
theorem r_10_isLet_51 : RA M_X10_isLet 51 0 52 := Or.inl ⟨0, by decide +kernel, rfl, rfl⟩
theorem r_10_isLet_52 : RG M_X10_isLet 52 10 10 55 := ⟨41, _, by decide +kernel, rfl, by decide, wd_f10_41, rfl, rfl⟩
theorem r_10_isLet_55 : RC M_X10_isLet 55 1 56 := ⟨⟨by decide, by decide⟩, Or.inl ⟨by decide +kernel, rfl⟩⟩
theorem r_10_isLet_56 : RW M_X10_isLet 56 .aaload 57 1 := ⟨by decide +kernel, rfl⟩
theorem r_10_isLet_57 : RL M_X10_isLet 57 1 58 := Or.inl ⟨1, by decide +kernel, rfl, rfl⟩
theorem r_10_isLet_58 : RW M_X10_isLet 58 .iaload 59 1 := ⟨by decide +kernel, rfl⟩
theorem r_10_isLet_59 : RB M_X10_isLet 59 (.if_icmp .gt) 66 62 := ⟨7, by decide +kernel, rfl, rfl⟩
theorem r_10_isLet_62 : RC M_X10_isLet 62 1 63 := ⟨⟨by decide, by decide⟩, Or.inl ⟨by decide +kernel, rfl⟩⟩
theorem r_10_isLet_63 : RB M_X10_isLet 63 .goto 67 66 := ⟨4, by decide +kernel, rfl, rfl⟩
theorem r_10_chooseBest_0 : RA M_X10_chooseBest 0 0 1 := Or.inl ⟨0, by decide +kernel, rfl, rfl⟩
theorem r_10_chooseBest_1 : RG M_X10_chooseBest 1 10 3 4 := ⟨16, _, by decide +kernel, rfl, by decide, wd_f10_16, rfl, rfl⟩
theorem r_10_chooseBest_4 : RC M_X10_chooseBest 4 0 5 := ⟨⟨by decide, by decide⟩, Or.inl ⟨by decide +kernel, rfl⟩⟩
theorem r_10_chooseBest_5 : RW M_X10_chooseBest 5 .iaload 6 1 := ⟨by decide +kernel, rfl⟩
theorem r_10_chooseBest_6 : RB M_X10_chooseBest 6 (.ifCond .eq) 18 9 := ⟨12, by decide +kernel, rfl, rfl⟩
theorem r_10_chooseBest_18 : RC M_X10_chooseBest 18 (-3) 20 := ⟨⟨by decide, by decide⟩, Or.inr (Or.inl ⟨by decide +kernel, by decide, rfl⟩)⟩
theorem r_10_chooseBest_20 : RW M_X10_chooseBest 20 .ireturn 21 1 := ⟨by decide +kernel, rfl⟩
theorem r_10_chooseBest_9 : RA M_X10_chooseBest 9 0 10 := Or.inl ⟨0, by decide +kernel, rfl, rfl⟩
theorem r_10_chooseBest_10 : RG M_X10_chooseBest 10 10 3 13 := ⟨16, _, by decide +kernel, rfl, by decide, wd_f10_16, rfl, rfl⟩
theorem r_10_chooseBest_13 : RC M_X10_chooseBest 13 1 14 := ⟨⟨by decide, by decide⟩, Or.inl ⟨by decide +kernel, rfl⟩⟩
theorem r_10_chooseBest_14 : RW M_X10_chooseBest 14 .iaload 15 1 := ⟨by decide +kernel, rfl⟩
theorem r_10_chooseBest_15 : RB M_X10_chooseBest 15 (.ifCond .ne) 21 18 := ⟨6, by decide +kernel, rfl, rfl⟩
theorem r_10_chooseBest_21 : RA M_X10_chooseBest 21 0 22 := Or.inl ⟨0, by decide +kernel, rfl, rfl⟩
theorem r_10_chooseBest_22 : RKv M_X10_chooseBest M_X10_weigh 22 0 10 25 := ⟨102, by decide +kernel, wd_m10_102, ok_M_X10_weigh, wd_s10_weigh, rfl⟩
theorem r_10_chooseBest_25 : RA M_X10_chooseBest 25 0 26 := Or.inl ⟨0, by decide +kernel, rfl, rfl⟩
theorem r_10_chooseBest_26 : RC M_X10_chooseBest 26 0 27 := ⟨⟨by decide, by decide⟩, Or.inl ⟨by decide +kernel, rfl⟩⟩
theorem r_10_chooseBest_27 : RKv M_X10_chooseBest M_X10_weighSets 27 1 10 30 := ⟨141, by decide +kernel, wd_m10_141, ok_M_X10_weighSets, wd_s10_weighSets, rfl⟩
theorem r_10_chooseBest_30 : RA M_X10_chooseBest 30 0 31 := Or.inl ⟨0, by decide +kernel, rfl, rfl⟩
theorem r_10_chooseBest_31 : RC M_X10_chooseBest 31 1 32 := ⟨⟨by decide, by decide⟩, Or.inl ⟨by decide +kernel, rfl⟩⟩
theorem r_10_chooseBest_32 : RKv M_X10_chooseBest M_X10_weighSets 32 1 10 35 := ⟨141, by decide +kernel, wd_m10_141, ok_M_X10_weighSets, wd_s10_weighSets, rfl⟩
theorem r_10_chooseBest_35 : RC M_X10_chooseBest 35 (-1) 36 := ⟨⟨by decide, by decide⟩, Or.inl ⟨by decide +kernel, rfl⟩⟩
theorem r_10_chooseBest_36 : RS M_X10_chooseBest 36 1 37 := ⟨by decide, Or.inl ⟨1, by decide +kernel, rfl, rfl⟩⟩
theorem r_10_chooseBest_37 : RC M_X10_chooseBest 37 0 38 := ⟨⟨by decide, by decide⟩, Or.inl ⟨by decide +kernel, rfl⟩⟩
theorem r_10_chooseBest_38 : RS M_X10_chooseBest 38 2 39 := ⟨by decide, Or.inl ⟨2, by decide +kernel, rfl, rfl⟩⟩
theorem r_10_chooseBest_39 : RC M_X10_chooseBest 39 0 40 := ⟨⟨by decide, by decide⟩, Or.inl ⟨by decide +kernel, rfl⟩⟩
theorem r_10_chooseBest_40 : RS M_X10_chooseBest 40 3 41 := ⟨by decide, Or.inl ⟨3, by decide +kernel, rfl, rfl⟩⟩
theorem r_10_chooseBest_41 : RA M_X10_chooseBest 41 0 42 := Or.inl ⟨0, by decide +kernel, rfl, rfl⟩
theorem r_10_chooseBest_42 : RC M_X10_chooseBest 42 0 43 := ⟨⟨by decide, by decide⟩, Or.inl ⟨by decide +kernel, rfl⟩⟩
theorem r_10_chooseBest_43 : RL M_X10_chooseBest 43 3 44 := Or.inl ⟨3, by decide +kernel, rfl, rfl⟩
theorem r_10_chooseBest_44 : RKv M_X10_chooseBest M_X10_isSetOf 44 2 10 47 := ⟨98, by decide +kernel, wd_m10_98, ok_M_X10_isSetOf, wd_s10_isSetOf, rfl⟩
theorem r_10_chooseBest_47 : RB M_X10_chooseBest 47 (.ifCond .eq) 166 50 := ⟨119, by decide +kernel, rfl, rfl⟩
theorem r_10_chooseBest_166 : RA M_X10_chooseBest 166 0 167 := Or.inl ⟨0, by decide +kernel, rfl, rfl⟩
theorem r_10_chooseBest_167 : RG M_X10_chooseBest 167 10 3 170 := ⟨16, _, by decide +kernel, rfl, by decide, wd_f10_16, rfl, rfl⟩
theorem r_10_chooseBest_170 : RC M_X10_chooseBest 170 0 171 := ⟨⟨by decide, by decide⟩, Or.inl ⟨by decide +kernel, rfl⟩⟩
theorem r_10_chooseBest_171 : RC M_X10_chooseBest 171 0 172 := ⟨⟨by decide, by decide⟩, Or.inl ⟨by decide +kernel, rfl⟩⟩
theorem r_10_chooseBest_172 : RW M_X10_chooseBest 172 .iastore 173 1 := ⟨by decide +kernel, rfl⟩
theorem r_10_chooseBest_173 : RA M_X10_chooseBest 173 0 174 := Or.inl ⟨0, by decide +kernel, rfl, rfl⟩
theorem r_10_chooseBest_174 : RG M_X10_chooseBest 174 10 3 177 := ⟨16, _, by decide +kernel, rfl, by decide, wd_f10_16, rfl, rfl⟩
theorem r_10_chooseBest_177 : RC M_X10_chooseBest 177 1 178 := ⟨⟨by decide, by decide⟩, Or.inl ⟨by decide +kernel, rfl⟩⟩
theorem r_10_chooseBest_178 : RC M_X10_chooseBest 178 0 179 := ⟨⟨by decide, by decide⟩, Or.inl ⟨by decide +kernel, rfl⟩⟩
theorem r_10_chooseBest_179 : RW M_X10_chooseBest 179 .iastore 180 1 := ⟨by decide +kernel, rfl⟩
theorem r_10_chooseBest_180 : RL M_X10_chooseBest 180 1 181 := Or.inl ⟨1, by decide +kernel, rfl, rfl⟩
theorem r_10_chooseBest_181 : RW M_X10_chooseBest 181 .ireturn 182 1 := ⟨by decide +kernel, rfl⟩
theorem r_10_chooseBest_50 : RL M_X10_chooseBest 50 3 51 := Or.inl ⟨3, by decide +kernel, rfl, rfl⟩
theorem r_10_chooseBest_51 : RC M_X10_chooseBest 51 128 54 := ⟨⟨by decide, by decide⟩, Or.inr (Or.inr (Or.inl ⟨by decide +kernel, by decide, rfl⟩))⟩
theorem r_10_chooseBest_54 : RB M_X10_chooseBest 54 (.if_icmp .ge) 166 57 := ⟨112, by decide +kernel, rfl, rfl⟩
theorem r_10_chooseBest_57 : RC M_X10_chooseBest 57 0 58 := ⟨⟨by decide, by decide⟩, Or.inl ⟨by decide +kernel, rfl⟩⟩
theorem r_10_chooseBest_58 : RS M_X10_chooseBest 58 4 60 := ⟨by decide, Or.inr ⟨by decide +kernel, rfl⟩⟩
theorem r_10_chooseBest_60 : RA M_X10_chooseBest 60 0 61 := Or.inl ⟨0, by decide +kernel, rfl, rfl⟩
theorem r_10_chooseBest_61 : RC M_X10_chooseBest 61 1 62 := ⟨⟨by decide, by decide⟩, Or.inl ⟨by decide +kernel, rfl⟩⟩
theorem r_10_chooseBest_62 : RL M_X10_chooseBest 62 4 64 := Or.inr ⟨by decide +kernel, rfl⟩
theorem r_10_chooseBest_64 : RKv M_X10_chooseBest M_X10_isSetOf 64 2 10 67 := ⟨98, by decide +kernel, wd_m10_98, ok_M_X10_isSetOf, wd_s10_isSetOf, rfl⟩
theorem r_10_chooseBest_67 : RB M_X10_chooseBest 67 (.ifCond .eq) 160 70 := ⟨93, by decide +kernel, rfl, rfl⟩
theorem r_10_chooseBest_160 : RI M_X10_chooseBest 160 3 1 163 := ⟨by decide, by decide +kernel, rfl⟩
theorem r_10_chooseBest_163 : RB M_X10_chooseBest 163 .goto 41 166 := ⟨(-122), by decide +kernel, rfl, rfl⟩
theorem r_10_chooseBest_70 : RL M_X10_chooseBest 70 4 72 := Or.inr ⟨by decide +kernel, rfl⟩
theorem r_10_chooseBest_72 : RC M_X10_chooseBest 72 128 75 := ⟨⟨by decide, by decide⟩, Or.inr (Or.inr (Or.inl ⟨by decide +kernel, by decide, rfl⟩))⟩
theorem r_10_chooseBest_75 : RB M_X10_chooseBest 75 (.if_icmp .ge) 160 78 := ⟨85, by decide +kernel, rfl, rfl⟩
theorem r_10_chooseBest_78 : RL M_X10_chooseBest 78 3 79 := Or.inl ⟨3, by decide +kernel, rfl, rfl⟩
theorem r_10_chooseBest_79 : RKs M_X10_chooseBest M_J_bitCount 79 1 82 := ⟨145, by decide +kernel, Or.inl wd_m10_145, ok_M_J_bitCount, rfl⟩
theorem r_10_chooseBest_82 : RL M_X10_chooseBest 82 4 84 := Or.inr ⟨by decide +kernel, rfl⟩
theorem r_10_chooseBest_84 : RKs M_X10_chooseBest M_J_bitCount 84 1 87 := ⟨145, by decide +kernel, Or.inl wd_m10_145, ok_M_J_bitCount, rfl⟩
theorem r_10_chooseBest_87 : RW M_X10_chooseBest 87 .iadd 88 1 := ⟨by decide +kernel, rfl⟩
theorem r_10_chooseBest_88 : RS M_X10_chooseBest 88 5 90 := ⟨by decide, Or.inr ⟨by decide +kernel, rfl⟩⟩
theorem r_10_chooseBest_90 : RL M_X10_chooseBest 90 3 91 := Or.inl ⟨3, by decide +kernel, rfl, rfl⟩
theorem r_10_chooseBest_91 : RKs M_X10_chooseBest M_J_bitCount 91 1 94 := ⟨145, by decide +kernel, Or.inl wd_m10_145, ok_M_J_bitCount, rfl⟩
theorem r_10_chooseBest_94 : RL M_X10_chooseBest 94 4 96 := Or.inr ⟨by decide +kernel, rfl⟩
theorem r_10_chooseBest_96 : RKs M_X10_chooseBest M_J_bitCount 96 1 99 := ⟨145, by decide +kernel, Or.inl wd_m10_145, ok_M_J_bitCount, rfl⟩
theorem r_10_chooseBest_99 : RW M_X10_chooseBest 99 .isub 100 1 := ⟨by decide +kernel, rfl⟩
theorem r_10_chooseBest_100 : RKm M_X10_chooseBest 100 Lib.Math.abs.name 103 := ⟨150, by decide +kernel, wd_m10_150, rfl⟩
theorem r_10_chooseBest_103 : RS M_X10_chooseBest 103 6 105 := ⟨by decide, Or.inr ⟨by decide +kernel, rfl⟩⟩
theorem r_10_chooseBest_105 : RL M_X10_chooseBest 105 5 107 := Or.inr ⟨by decide +kernel, rfl⟩
theorem r_10_chooseBest_107 : RL M_X10_chooseBest 107 1 108 := Or.inl ⟨1, by decide +kernel, rfl, rfl⟩
theorem r_10_chooseBest_108 : RB M_X10_chooseBest 108 (.if_icmp .gt) 123 111 := ⟨15, by decide +kernel, rfl, rfl⟩
theorem r_10_chooseBest_123 : RA M_X10_chooseBest 123 0 124 := Or.inl ⟨0, by decide +kernel, rfl, rfl⟩
theorem r_10_chooseBest_124 : RL M_X10_chooseBest 124 3 125 := Or.inl ⟨3, by decide +kernel, rfl, rfl⟩
theorem r_10_chooseBest_125 : RL M_X10_chooseBest 125 4 127 := Or.inr ⟨by decide +kernel, rfl⟩
theorem r_10_chooseBest_127 : RKv M_X10_chooseBest M_X10_isLet 127 2 10 130 := ⟨153, by decide +kernel, wd_m10_153, ok_M_X10_isLet, wd_s10_isLet, rfl⟩
theorem r_10_chooseBest_130 : RB M_X10_chooseBest 130 (.ifCond .eq) 154 133 := ⟨24, by decide +kernel, rfl, rfl⟩
theorem r_10_chooseBest_154 : RI M_X10_chooseBest 154 4 1 157 := ⟨by decide, by decide +kernel, rfl⟩
theorem r_10_chooseBest_157 : RB M_X10_chooseBest 157 .goto 60 160 := ⟨(-97), by decide +kernel, rfl, rfl⟩
theorem r_10_chooseBest_133 : RL M_X10_chooseBest 133 5 135 := Or.inr ⟨by decide +kernel, rfl⟩
theorem r_10_chooseBest_135 : RS M_X10_chooseBest 135 1 136 := ⟨by decide, Or.inl ⟨1, by decide +kernel, rfl, rfl⟩⟩
theorem r_10_chooseBest_136 : RL M_X10_chooseBest 136 6 138 := Or.inr ⟨by decide +kernel, rfl⟩
theorem r_10_chooseBest_138 : RS M_X10_chooseBest 138 2 139 := ⟨by decide, Or.inl ⟨2, by decide +kernel, rfl, rfl⟩⟩
theorem r_10_chooseBest_139 : RA M_X10_chooseBest 139 0 140 := Or.inl ⟨0, by decide +kernel, rfl, rfl⟩
theorem r_10_chooseBest_140 : RG M_X10_chooseBest 140 10 4 143 := ⟨20, _, by decide +kernel, rfl, by decide, wd_f10_20, rfl, rfl⟩
theorem r_10_chooseBest_143 : RC M_X10_chooseBest 143 0 144 := ⟨⟨by decide, by decide⟩, Or.inl ⟨by decide +kernel, rfl⟩⟩
theorem r_10_chooseBest_144 : RL M_X10_chooseBest 144 3 145 := Or.inl ⟨3, by decide +kernel, rfl, rfl⟩
theorem r_10_chooseBest_145 : RW M_X10_chooseBest 145 .iastore 146 1 := ⟨by decide +kernel, rfl⟩
theorem r_10_chooseBest_146 : RA M_X10_chooseBest 146 0 147 := Or.inl ⟨0, by decide +kernel, rfl, rfl⟩
theorem r_10_chooseBest_147 : RG M_X10_chooseBest 147 10 4 150 := ⟨20, _, by decide +kernel, rfl, by decide, wd_f10_20, rfl, rfl⟩
theorem r_10_chooseBest_150 : RC M_X10_chooseBest 150 1 151 := ⟨⟨by decide, by decide⟩, Or.inl ⟨by decide +kernel, rfl⟩⟩
theorem r_10_chooseBest_151 : RL M_X10_chooseBest 151 4 153 := Or.inr ⟨by decide +kernel, rfl⟩
theorem r_10_chooseBest_153 : RW M_X10_chooseBest 153 .iastore 154 1 := ⟨by decide +kernel, rfl⟩
theorem r_10_chooseBest_111 : RL M_X10_chooseBest 111 5 113 := Or.inr ⟨by decide +kernel, rfl⟩
theorem r_10_chooseBest_113 : RL M_X10_chooseBest 113 1 114 := Or.inl ⟨1, by decide +kernel, rfl, rfl⟩
theorem r_10_chooseBest_114 : RB M_X10_chooseBest 114 (.if_icmp .ne) 154 117 := ⟨40, by decide +kernel, rfl, rfl⟩
theorem r_10_chooseBest_117 : RL M_X10_chooseBest 117 6 119 := Or.inr ⟨by decide +kernel, rfl⟩
theorem r_10_chooseBest_119 : RL M_X10_chooseBest 119 2 120 := Or.inl ⟨2, by decide +kernel, rfl, rfl⟩
theorem r_10_chooseBest_120 : RB M_X10_chooseBest 120 (.if_icmp .ge) 154 123 := ⟨34, by decide +kernel, rfl, rfl⟩
theorem r_11_best_0 : RA M_X11_best 0 0 1 := Or.inl ⟨0, by decide +kernel, rfl, rfl⟩
theorem r_11_best_1 : RG M_X11_best 1 11 5 4 := ⟨55, _, by decide +kernel, rfl, by decide, wd_f11_55, rfl, rfl⟩
theorem r_11_best_4 : RKv M_X11_best M_X10_chooseBest 4 0 10 7 := ⟨187, by decide +kernel, wd_m11_187, ok_M_X10_chooseBest, wd_s10_chooseBest, rfl⟩
theorem r_11_best_7 : RW M_X11_best 7 .ireturn 8 1 := ⟨by decide +kernel, rfl⟩
set_option maxRecDepth 10000 in
theorem wset0 {l : Launch} {w : Wo} {d : Nat} {G : PH} {P : Option PV → PH → Prop} {ST : Int → Int → Int → Prop} {WT : Int → Int → Int → Int → Int}  (hp : ∀ i, 0 ≤ i → i < (gF G 1 0 1) → gD G 30 0 i = some (3, i)) (hsz : 0 ≤ (gF G 1 0 1) ∧ (gF G 1 0 1) ≤ 150) (hn : 0 ≤ (gA G 94 0 (0)) ∧ (gA G 94 0 (0)) ≤ 7) (hlv : ∀ i, 0 ≤ i → i < (gA G 94 0 (0)) → 0 ≤ (gA G 93 0 (i)) ∧ (gA G 93 0 (i)) < (gF G 1 0 1)) (hdi : ∀ i j, 0 ≤ i → i < j → j < (gA G 94 0 (0)) → (gA G 93 0 (i)) ≠ (gA G 93 0 (j))) (hr : 1 ≤ (gF G 10 0 5) ∧ (gF G 10 0 5) ≤ 99) (hwa : ∀ i, 0 ≤ i → i < (gA G 94 0 (0)) → wOk (fun p => (gF G 3 (p) 8)) (fun p => ST p (gF G 1 0 2) (gF G 1 0 2)) (fun p => WT p 0 (gF G 1 0 2) (gF G 1 0 2)) (fun p => WT p 1 (gF G 1 0 2) (gF G 1 0 2)) (gA G 93) (gA G 97) (gA G 99) 0 i) (hga : ∀ c, 0 ≤ c → c < 16 → (gA G 100 0 (c)) = cgC G c ∧ (gA G 101 0 (c)) = ciC G c 1) (hsh : pShl 1 (gA G 94 0 (0)) ≤ 128) (hP : ∀ mg s0 s1 : Int → Int, (∀ x, 0 ≤ x → x < pShl 1 (gA G 94 0 (0)) → mg x = b2i (okC G ST 0 x) ∧ (¬ awC G 0 x → s0 x = wfC G WT 0 0 x ∧ s1 x = wfC G WT 0 1 x)) → P none (uA (uA (uA G 105 0 (mg)) 103 0 (s0)) 103 1 (s1))) : PW l w M_X10_weighSets (d + 2) 0 [some (vR 10 (0)), some (vI (0)), none, none] [] G P := by
  refine pw_const r_10_weighSets_0 ?_
  refine pw_istore (ls' := [some (vR 10 (0)), some (vI (0)), some (vI (0)), none]) r_10_weighSets_1 rfl rfl ?_
  have L2 : ∀ (nF : Nat) (x : Int) (mg s0 s1 : Int → Int), (hx0 : 0 ≤ x ∧ x ≤ 128) → (hx : ∀ y, 0 ≤ y → y < x → mg y = b2i (okC G ST 0 y) ∧ (¬ awC G 0 y → s0 y = wfC G WT 0 0 y ∧ s1 y = wfC G WT 0 1 y)) → (128 - x).toNat < nF → PW l w M_X10_weighSets (d + 2) 2 [some (vR 10 (0)), some (vI (0)), some (vI (x)), none] [] (uA (uA (uA G 105 (0) (mg)) 103 (0) (s0)) 103 (1) (s1)) P := by
    intro nF
    induction nF with
    | zero => intro _ _ _ _ _ _ hM; exact absurd hM (Nat.not_lt_zero _)
    | succ nF ih2 =>
      intro x mg s0 s1 hx0 hx hM2
      refine pw_aload r_10_weighSets_2 rfl ?_
      refine pw_iload r_10_weighSets_3 rfl ?_
      refine pw_iload r_10_weighSets_4 rfl ?_
      refine pw_callV (av := [vI (0), vI (x)]) (st := []) (ls0 := [some (vR 10 (0)), some (vI (0)), some (vI (x))]) r_10_weighSets_5 rfl rfl rfl (Nat.le_refl _) ?_
      refine sp_X10_isSetOf (by decide) ?_
      refine pw_top (b := b2i (0 ≤ x ∧ x < pShl 1 (gA G 94 (0) (0)))) (by first | rfl | simp (disch := decide) [gF_sF, gF_sA, gF_uA, gF_sD, gA_sF, gA_sA, gA_uA, gA_sD, gD_sF, gD_sA, gD_uA, gD_sD]) ?_
      refine pw_if_eqB r_10_weighSets_8 (fun h08 => ?_) (fun h08 => ?_)
      · skip
        refine pw_vret r_10_weighSets_121 rfl (Nat.le_refl _) ⟨rfl, ?_⟩
        first | exact hP mg s0 s1 (fun y a b => hx y a (by omega))
      · skip
        refine pw_iload r_10_weighSets_11 rfl ?_
        refine pw_const r_10_weighSets_12 ?_
        refine pw_icmp_ge r_10_weighSets_15 (fun h15 => ?_) (fun h15 => ?_)
        · skip
          refine pw_vret r_10_weighSets_121 rfl (Nat.le_refl _) ⟨rfl, ?_⟩
          first | exact hP mg s0 s1 (fun y a b => hx y a (by omega))
        · skip
          refine pw_aload r_10_weighSets_18 rfl ?_
          refine pw_iload r_10_weighSets_19 rfl ?_
          refine pw_iload r_10_weighSets_20 rfl ?_
          refine pw_const r_10_weighSets_21 ?_
          refine pw_callV (av := [vI (0), vI (x), vI (1)]) (st := []) (ls0 := [some (vR 10 (0)), some (vI (0)), some (vI (x)), some (vI (1)), none]) r_10_weighSets_22 rfl rfl rfl (Nat.le_refl _) ?_
          refine sp_X10_isBarred (by decide) (by exact hn) ?_
          refine pw_top (b := b2i (∃ i, 0 ≤ i ∧ i < (gA G 94 (0) (0)) ∧ bt x i ∧ (gA G 97 (0) (i)) = 1)) (by first | rfl | simp (disch := decide) [gF_sF, gF_sA, gF_uA, gF_sD, gA_sF, gA_sA, gA_uA, gA_sD, gD_sF, gD_sA, gD_uA, gD_sD]) ?_
          refine pw_top (b := b2i (awC G 0 x)) (b2i_iff (bar_aw (bars := gA G 97) (wor := gA G 99) hwa)) ?_
          refine pw_if_neB r_10_weighSets_25 (fun h25 => ?_) (fun h25 => ?_)
          · skip
            refine pw_const r_10_weighSets_56 ?_
            refine pw_goto r_10_weighSets_57 ?_
            refine pw_istore (ls' := [some (vR 10 (0)), some (vI (0)), some (vI (x)), some (vI (1))]) r_10_weighSets_61 rfl rfl ?_
            refine pw_aload r_10_weighSets_62 rfl ?_
            refine pw_getR r_10_weighSets_63 fs_10_11 (by decide) ?_
            refine pw_iload r_10_weighSets_66 rfl ?_
            refine pw_aaldS r_10_weighSets_67 sh104 (by decide) (by decide) aS104 rw105 (by omega) (by omega) ?_
            refine pw_iload r_10_weighSets_68 rfl ?_
            refine pw_iload r_10_weighSets_69 rfl ?_
            refine pw_if_eq r_10_weighSets_70 (fun h70 => absurd h70 (by decide)) (fun h70 => ?_)
            refine pw_const r_10_weighSets_73 ?_
            refine pw_goto r_10_weighSets_74 ?_
            refine pw_iast r_10_weighSets_78 sh105 (by omega) (by omega) ?_
            refine pw_aload r_10_weighSets_79 rfl ?_
            refine pw_getR r_10_weighSets_80 fs_10_10 (by decide) ?_
            refine pw_const r_10_weighSets_83 ?_
            refine pw_iload r_10_weighSets_84 rfl ?_
            refine pw_imul r_10_weighSets_85 (by omega) ?_
            refine pw_top (b := 0) (by decide) ?_
            refine pw_aaldS r_10_weighSets_86 sh102 (by decide) (by decide) aS102 rw103 (by omega) (by omega) ?_
            refine pw_iload r_10_weighSets_87 rfl ?_
            refine pw_aload r_10_weighSets_88 rfl ?_
            refine pw_iload r_10_weighSets_89 rfl ?_
            refine pw_iload r_10_weighSets_90 rfl ?_
            refine pw_const r_10_weighSets_91 ?_
            refine pw_callV (av := [vI (0), vI (x), vI (0)]) (st := [vI (x), vR 103 (0)]) (ls0 := [some (vR 10 (0)), some (vI (0)), some (vI (x)), some (vI (0)), none, none]) r_10_weighSets_92 rfl rfl rfl (Nat.le_refl _) ?_
            refine sp_X10_sumWorth (by decide) (by exact hn) (by decide) ?_
            refine pw_top (b := smF (gA G 99 (2 * 0 + 0)) x (gA G 94 (0) (0))) (by first | rfl | simp (disch := decide) [gF_sF, gF_sA, gF_uA, gF_sD, gA_sF, gA_sA, gA_uA, gA_sD, gD_sF, gD_sA, gD_uA, gD_sD]) ?_
            refine pw_iast r_10_weighSets_95 sh103 (by omega) (by omega) ?_
            refine pw_aload r_10_weighSets_96 rfl ?_
            refine pw_getR r_10_weighSets_97 fs_10_10 (by decide) ?_
            refine pw_const r_10_weighSets_100 ?_
            refine pw_iload r_10_weighSets_101 rfl ?_
            refine pw_imul r_10_weighSets_102 (by omega) ?_
            refine pw_top (b := 0) (by decide) ?_
            refine pw_const r_10_weighSets_103 ?_
            refine pw_iadd r_10_weighSets_104 (by omega) ?_
            refine pw_top (b := 1) (by decide) ?_
            refine pw_aaldS r_10_weighSets_105 sh102 (by decide) (by decide) aS102 rw103 (by omega) (by omega) ?_
            refine pw_iload r_10_weighSets_106 rfl ?_
            refine pw_aload r_10_weighSets_107 rfl ?_
            refine pw_iload r_10_weighSets_108 rfl ?_
            refine pw_iload r_10_weighSets_109 rfl ?_
            refine pw_const r_10_weighSets_110 ?_
            refine pw_callV (av := [vI (0), vI (x), vI (1)]) (st := [vI (x), vR 103 (1)]) (ls0 := [some (vR 10 (0)), some (vI (0)), some (vI (x)), some (vI (1)), none, none]) r_10_weighSets_111 rfl rfl rfl (Nat.le_refl _) ?_
            refine sp_X10_sumWorth (by decide) (by exact hn) (by decide) ?_
            refine pw_top (b := smF (gA G 99 (2 * 0 + 1)) x (gA G 94 (0) (0))) (by first | rfl | simp (disch := decide) [gF_sF, gF_sA, gF_uA, gF_sD, gA_sF, gA_sA, gA_uA, gA_sD, gD_sF, gD_sA, gD_uA, gD_sD]) ?_
            refine pw_iast r_10_weighSets_114 sh103 (by omega) (by omega) ?_
            refine pw_iinc (b := 0) (ls' := [some (vR 10 (0)), some (vI (0)), some (vI ((x + 1))), some (vI (1))]) r_10_weighSets_115 rfl rfl (by omega) rfl ?_
            refine pw_goto r_10_weighSets_118 ?_
            refine pw_weakL (ls' := [some (vR 10 (0)), some (vI (0)), some (vI ((x + 1))), none]) (⟨rfl, ⟨rfl, ⟨rfl, trivial⟩⟩⟩) ?_
            refine pw_eqG (G' := uA (uA (uA G 105 (0) ((upA mg x 0))) 103 (0) ((upA s0 x (smF (gA G 99 (2 * 0 + 0)) x (gA G 94 (0) (0)))))) 103 (1) ((upA s1 x (smF (gA G 99 (2 * 0 + 1)) x (gA G 94 (0) (0)))))) (by simp (disch := decide) only [sA_uA, sA_uA_ne, sA_uA_row]) ?_
            exact ih2 ((x + 1)) ((upA mg x 0)) ((upA s0 x (smF (gA G 99 (2 * 0 + 0)) x (gA G 94 (0) (0))))) ((upA s1 x (smF (gA G 99 (2 * 0 + 1)) x (gA G 94 (0) (0))))) (by first | assumption | omega) (by intro y y0 y1; by_cases z : y = x; rw [z, upA_same, upA_same, upA_same]; refine ⟨?_, fun na => ⟨?_, ?_⟩⟩; (exact (b2i_f (fun z => z.1 h25)).symm); exact sum_w0 (bars := gA G 97) (wor := gA G 99) hwa hn.1 na; exact sum_w1 (bars := gA G 97) (wor := gA G 99) hwa hn.1 na; rw [upA_ne z, upA_ne z, upA_ne z]; exact hx y y0 (by omega)) (by omega)
          · skip
            refine pw_aload r_10_weighSets_28 rfl ?_
            refine pw_iload r_10_weighSets_29 rfl ?_
            refine pw_iload r_10_weighSets_30 rfl ?_
            refine pw_const r_10_weighSets_31 ?_
            refine pw_callV (av := [vI (0), vI (x), vI (2)]) (st := []) (ls0 := [some (vR 10 (0)), some (vI (0)), some (vI (x)), some (vI (2)), none]) r_10_weighSets_32 rfl rfl rfl (Nat.le_refl _) ?_
            refine sp_X10_isBarred (by decide) (by exact hn) ?_
            refine pw_top (b := b2i (∃ i, 0 ≤ i ∧ i < (gA G 94 (0) (0)) ∧ bt x i ∧ (gA G 97 (0) (i)) = 2)) (by first | rfl | simp (disch := decide) [gF_sF, gF_sA, gF_uA, gF_sD, gA_sF, gA_sA, gA_uA, gA_sD, gD_sF, gD_sA, gD_uA, gD_sD]) ?_
            refine pw_top (b := b2i (syC G ST 0 x)) (b2i_iff (bar_sy (bars := gA G 97) (wor := gA G 99) hwa h25)) ?_
            refine pw_if_neB r_10_weighSets_35 (fun h35 => ?_) (fun h35 => ?_)
            · skip
              refine pw_const r_10_weighSets_56 ?_
              refine pw_goto r_10_weighSets_57 ?_
              refine pw_istore (ls' := [some (vR 10 (0)), some (vI (0)), some (vI (x)), some (vI (1))]) r_10_weighSets_61 rfl rfl ?_
              refine pw_aload r_10_weighSets_62 rfl ?_
              refine pw_getR r_10_weighSets_63 fs_10_11 (by decide) ?_
              refine pw_iload r_10_weighSets_66 rfl ?_
              refine pw_aaldS r_10_weighSets_67 sh104 (by decide) (by decide) aS104 rw105 (by omega) (by omega) ?_
              refine pw_iload r_10_weighSets_68 rfl ?_
              refine pw_iload r_10_weighSets_69 rfl ?_
              refine pw_if_eq r_10_weighSets_70 (fun h70 => absurd h70 (by decide)) (fun h70 => ?_)
              refine pw_const r_10_weighSets_73 ?_
              refine pw_goto r_10_weighSets_74 ?_
              refine pw_iast r_10_weighSets_78 sh105 (by omega) (by omega) ?_
              refine pw_aload r_10_weighSets_79 rfl ?_
              refine pw_getR r_10_weighSets_80 fs_10_10 (by decide) ?_
              refine pw_const r_10_weighSets_83 ?_
              refine pw_iload r_10_weighSets_84 rfl ?_
              refine pw_imul r_10_weighSets_85 (by omega) ?_
              refine pw_top (b := 0) (by decide) ?_
              refine pw_aaldS r_10_weighSets_86 sh102 (by decide) (by decide) aS102 rw103 (by omega) (by omega) ?_
              refine pw_iload r_10_weighSets_87 rfl ?_
              refine pw_aload r_10_weighSets_88 rfl ?_
              refine pw_iload r_10_weighSets_89 rfl ?_
              refine pw_iload r_10_weighSets_90 rfl ?_
              refine pw_const r_10_weighSets_91 ?_
              refine pw_callV (av := [vI (0), vI (x), vI (0)]) (st := [vI (x), vR 103 (0)]) (ls0 := [some (vR 10 (0)), some (vI (0)), some (vI (x)), some (vI (0)), none, none]) r_10_weighSets_92 rfl rfl rfl (Nat.le_refl _) ?_
              refine sp_X10_sumWorth (by decide) (by exact hn) (by decide) ?_
              refine pw_top (b := smF (gA G 99 (2 * 0 + 0)) x (gA G 94 (0) (0))) (by first | rfl | simp (disch := decide) [gF_sF, gF_sA, gF_uA, gF_sD, gA_sF, gA_sA, gA_uA, gA_sD, gD_sF, gD_sA, gD_uA, gD_sD]) ?_
              refine pw_iast r_10_weighSets_95 sh103 (by omega) (by omega) ?_
              refine pw_aload r_10_weighSets_96 rfl ?_
              refine pw_getR r_10_weighSets_97 fs_10_10 (by decide) ?_
              refine pw_const r_10_weighSets_100 ?_
              refine pw_iload r_10_weighSets_101 rfl ?_
              refine pw_imul r_10_weighSets_102 (by omega) ?_
              refine pw_top (b := 0) (by decide) ?_
              refine pw_const r_10_weighSets_103 ?_
              refine pw_iadd r_10_weighSets_104 (by omega) ?_
              refine pw_top (b := 1) (by decide) ?_
              refine pw_aaldS r_10_weighSets_105 sh102 (by decide) (by decide) aS102 rw103 (by omega) (by omega) ?_
              refine pw_iload r_10_weighSets_106 rfl ?_
              refine pw_aload r_10_weighSets_107 rfl ?_
              refine pw_iload r_10_weighSets_108 rfl ?_
              refine pw_iload r_10_weighSets_109 rfl ?_
              refine pw_const r_10_weighSets_110 ?_
              refine pw_callV (av := [vI (0), vI (x), vI (1)]) (st := [vI (x), vR 103 (1)]) (ls0 := [some (vR 10 (0)), some (vI (0)), some (vI (x)), some (vI (1)), none, none]) r_10_weighSets_111 rfl rfl rfl (Nat.le_refl _) ?_
              refine sp_X10_sumWorth (by decide) (by exact hn) (by decide) ?_
              refine pw_top (b := smF (gA G 99 (2 * 0 + 1)) x (gA G 94 (0) (0))) (by first | rfl | simp (disch := decide) [gF_sF, gF_sA, gF_uA, gF_sD, gA_sF, gA_sA, gA_uA, gA_sD, gD_sF, gD_sA, gD_uA, gD_sD]) ?_
              refine pw_iast r_10_weighSets_114 sh103 (by omega) (by omega) ?_
              refine pw_iinc (b := 0) (ls' := [some (vR 10 (0)), some (vI (0)), some (vI ((x + 1))), some (vI (1))]) r_10_weighSets_115 rfl rfl (by omega) rfl ?_
              refine pw_goto r_10_weighSets_118 ?_
              refine pw_weakL (ls' := [some (vR 10 (0)), some (vI (0)), some (vI ((x + 1))), none]) (⟨rfl, ⟨rfl, ⟨rfl, trivial⟩⟩⟩) ?_
              refine pw_eqG (G' := uA (uA (uA G 105 (0) ((upA mg x 0))) 103 (0) ((upA s0 x (smF (gA G 99 (2 * 0 + 0)) x (gA G 94 (0) (0)))))) 103 (1) ((upA s1 x (smF (gA G 99 (2 * 0 + 1)) x (gA G 94 (0) (0)))))) (by simp (disch := decide) only [sA_uA, sA_uA_ne, sA_uA_row]) ?_
              exact ih2 ((x + 1)) ((upA mg x 0)) ((upA s0 x (smF (gA G 99 (2 * 0 + 0)) x (gA G 94 (0) (0))))) ((upA s1 x (smF (gA G 99 (2 * 0 + 1)) x (gA G 94 (0) (0))))) (by first | assumption | omega) (by intro y y0 y1; by_cases z : y = x; rw [z, upA_same, upA_same, upA_same]; refine ⟨?_, fun na => ⟨?_, ?_⟩⟩; (exact (b2i_f (fun z => z.2.1 h35)).symm); exact sum_w0 (bars := gA G 97) (wor := gA G 99) hwa hn.1 na; exact sum_w1 (bars := gA G 97) (wor := gA G 99) hwa hn.1 na; rw [upA_ne z, upA_ne z, upA_ne z]; exact hx y y0 (by omega)) (by omega)
            · skip
              refine pw_aload r_10_weighSets_38 rfl ?_
              refine pw_iload r_10_weighSets_39 rfl ?_
              refine pw_iload r_10_weighSets_40 rfl ?_
              refine pw_callV (av := [vI (0), vI (x)]) (st := []) (ls0 := [some (vR 10 (0)), some (vI (0)), some (vI (x)), none, none, none]) r_10_weighSets_41 rfl rfl rfl (Nat.le_refl _) ?_
              refine sp_X10_partsChild (by exact hp) (by exact hsz) (by decide) (by exact hn) (by exact hlv) (by exact hdi) ?_
              refine pw_top (b := b2i (∃ i, 0 ≤ i ∧ i < (gA G 94 (0) (0)) ∧ (0 ≤ (gF G 3 ((gA G 93 (0) (i))) 4) ∧ ∃ j, 0 ≤ j ∧ j < (gA G 94 (0) (0)) ∧ (gA G 93 (0) (j)) = (gF G 3 ((gA G 93 (0) (i))) 4) ∧ ¬ (bt x i ↔ bt x j)))) (by first | rfl | simp (disch := decide) [gF_sF, gF_sA, gF_uA, gF_sD, gA_sF, gA_sA, gA_uA, gA_sD, gD_sF, gD_sA, gD_uA, gD_sD]) ?_
              refine pw_top (b := b2i (pcC G 0 x)) (b2i_iff (Iff.rfl)) ?_
              refine pw_if_neB r_10_weighSets_44 (fun h44 => ?_) (fun h44 => ?_)
              · skip
                refine pw_const r_10_weighSets_56 ?_
                refine pw_goto r_10_weighSets_57 ?_
                refine pw_istore (ls' := [some (vR 10 (0)), some (vI (0)), some (vI (x)), some (vI (1))]) r_10_weighSets_61 rfl rfl ?_
                refine pw_aload r_10_weighSets_62 rfl ?_
                refine pw_getR r_10_weighSets_63 fs_10_11 (by decide) ?_
                refine pw_iload r_10_weighSets_66 rfl ?_
                refine pw_aaldS r_10_weighSets_67 sh104 (by decide) (by decide) aS104 rw105 (by omega) (by omega) ?_
                refine pw_iload r_10_weighSets_68 rfl ?_
                refine pw_iload r_10_weighSets_69 rfl ?_
                refine pw_if_eq r_10_weighSets_70 (fun h70 => absurd h70 (by decide)) (fun h70 => ?_)
                refine pw_const r_10_weighSets_73 ?_
                refine pw_goto r_10_weighSets_74 ?_
                refine pw_iast r_10_weighSets_78 sh105 (by omega) (by omega) ?_
                refine pw_aload r_10_weighSets_79 rfl ?_
                refine pw_getR r_10_weighSets_80 fs_10_10 (by decide) ?_
                refine pw_const r_10_weighSets_83 ?_
                refine pw_iload r_10_weighSets_84 rfl ?_
                refine pw_imul r_10_weighSets_85 (by omega) ?_
                refine pw_top (b := 0) (by decide) ?_
                refine pw_aaldS r_10_weighSets_86 sh102 (by decide) (by decide) aS102 rw103 (by omega) (by omega) ?_
                refine pw_iload r_10_weighSets_87 rfl ?_
                refine pw_aload r_10_weighSets_88 rfl ?_
                refine pw_iload r_10_weighSets_89 rfl ?_
                refine pw_iload r_10_weighSets_90 rfl ?_
                refine pw_const r_10_weighSets_91 ?_
                refine pw_callV (av := [vI (0), vI (x), vI (0)]) (st := [vI (x), vR 103 (0)]) (ls0 := [some (vR 10 (0)), some (vI (0)), some (vI (x)), some (vI (0)), none, none]) r_10_weighSets_92 rfl rfl rfl (Nat.le_refl _) ?_
                refine sp_X10_sumWorth (by decide) (by exact hn) (by decide) ?_
                refine pw_top (b := smF (gA G 99 (2 * 0 + 0)) x (gA G 94 (0) (0))) (by first | rfl | simp (disch := decide) [gF_sF, gF_sA, gF_uA, gF_sD, gA_sF, gA_sA, gA_uA, gA_sD, gD_sF, gD_sA, gD_uA, gD_sD]) ?_
                refine pw_iast r_10_weighSets_95 sh103 (by omega) (by omega) ?_
                refine pw_aload r_10_weighSets_96 rfl ?_
                refine pw_getR r_10_weighSets_97 fs_10_10 (by decide) ?_
                refine pw_const r_10_weighSets_100 ?_
                refine pw_iload r_10_weighSets_101 rfl ?_
                refine pw_imul r_10_weighSets_102 (by omega) ?_
                refine pw_top (b := 0) (by decide) ?_
                refine pw_const r_10_weighSets_103 ?_
                refine pw_iadd r_10_weighSets_104 (by omega) ?_
                refine pw_top (b := 1) (by decide) ?_
                refine pw_aaldS r_10_weighSets_105 sh102 (by decide) (by decide) aS102 rw103 (by omega) (by omega) ?_
                refine pw_iload r_10_weighSets_106 rfl ?_
                refine pw_aload r_10_weighSets_107 rfl ?_
                refine pw_iload r_10_weighSets_108 rfl ?_
                refine pw_iload r_10_weighSets_109 rfl ?_
                refine pw_const r_10_weighSets_110 ?_
                refine pw_callV (av := [vI (0), vI (x), vI (1)]) (st := [vI (x), vR 103 (1)]) (ls0 := [some (vR 10 (0)), some (vI (0)), some (vI (x)), some (vI (1)), none, none]) r_10_weighSets_111 rfl rfl rfl (Nat.le_refl _) ?_
                refine sp_X10_sumWorth (by decide) (by exact hn) (by decide) ?_
                refine pw_top (b := smF (gA G 99 (2 * 0 + 1)) x (gA G 94 (0) (0))) (by first | rfl | simp (disch := decide) [gF_sF, gF_sA, gF_uA, gF_sD, gA_sF, gA_sA, gA_uA, gA_sD, gD_sF, gD_sA, gD_uA, gD_sD]) ?_
                refine pw_iast r_10_weighSets_114 sh103 (by omega) (by omega) ?_
                refine pw_iinc (b := 0) (ls' := [some (vR 10 (0)), some (vI (0)), some (vI ((x + 1))), some (vI (1))]) r_10_weighSets_115 rfl rfl (by omega) rfl ?_
                refine pw_goto r_10_weighSets_118 ?_
                refine pw_weakL (ls' := [some (vR 10 (0)), some (vI (0)), some (vI ((x + 1))), none]) (⟨rfl, ⟨rfl, ⟨rfl, trivial⟩⟩⟩) ?_
                refine pw_eqG (G' := uA (uA (uA G 105 (0) ((upA mg x 0))) 103 (0) ((upA s0 x (smF (gA G 99 (2 * 0 + 0)) x (gA G 94 (0) (0)))))) 103 (1) ((upA s1 x (smF (gA G 99 (2 * 0 + 1)) x (gA G 94 (0) (0)))))) (by simp (disch := decide) only [sA_uA, sA_uA_ne, sA_uA_row]) ?_
                exact ih2 ((x + 1)) ((upA mg x 0)) ((upA s0 x (smF (gA G 99 (2 * 0 + 0)) x (gA G 94 (0) (0))))) ((upA s1 x (smF (gA G 99 (2 * 0 + 1)) x (gA G 94 (0) (0))))) (by first | assumption | omega) (by intro y y0 y1; by_cases z : y = x; rw [z, upA_same, upA_same, upA_same]; refine ⟨?_, fun na => ⟨?_, ?_⟩⟩; (exact (b2i_f (fun z => z.2.2.1 h44)).symm); exact sum_w0 (bars := gA G 97) (wor := gA G 99) hwa hn.1 na; exact sum_w1 (bars := gA G 97) (wor := gA G 99) hwa hn.1 na; rw [upA_ne z, upA_ne z, upA_ne z]; exact hx y y0 (by omega)) (by omega)
              · skip
                refine pw_aload r_10_weighSets_47 rfl ?_
                refine pw_iload r_10_weighSets_48 rfl ?_
                refine pw_iload r_10_weighSets_49 rfl ?_
                refine pw_callV (av := [vI (0), vI (x)]) (st := []) (ls0 := [some (vR 10 (0)), some (vI (0)), some (vI (x)), none, none, none, none, none]) r_10_weighSets_50 rfl rfl rfl (Nat.le_refl _) ?_
                refine sp_X10_lacksDoctors (by exact hp) (by exact hsz) (by decide) (by exact hn) (by exact hlv) (by exact hr) (by intro c a b; have h1 := hga c a b; have h2 := cg_in (G := G) hsz.1 c; have h3 := ci_in (G := G) hsz.1 c 1; show (0 ≤ (gA G 100 0 (c)) ∧ (gA G 100 0 (c)) ≤ 150) ∧ 0 ≤ (gA G 101 0 (c)) ∧ (gA G 101 0 (c)) ≤ 150; omega) ?_
                refine pw_top (b := b2i (∃ c, 0 ≤ c ∧ c < 16 ∧ ((gA G 101 (0) (c)) - cnt (fun i => (bt x i ∧ ((gF G 3 ((gA G 93 (0) (i))) 8) = 0 ∧ (gF G 3 ((gA G 93 (0) (i))) 10) = c)) ∧ (gF G 3 ((gA G 93 (0) (i))) 1) = 3) (gA G 94 (0) (0)) < min (pDiv ((gA G 100 (0) (c)) - cnt (fun i => (bt x i ∧ ((gF G 3 ((gA G 93 (0) (i))) 8) = 0 ∧ (gF G 3 ((gA G 93 (0) (i))) 10) = c)) ∧ 0 < (gF G 3 ((gA G 93 (0) (i))) 6)) (gA G 94 (0) (0)) + (gF G 10 (0) 5) - 1) (gF G 10 (0) 5)) (gA G 101 (0) (c))))) (by first | rfl | simp (disch := decide) [gF_sF, gF_sA, gF_uA, gF_sD, gA_sF, gA_sA, gA_uA, gA_sD, gD_sF, gD_sA, gD_uA, gD_sD]) ?_
                refine pw_top (b := b2i (ldC G 0 x)) (b2i_iff (ld_iff (gr := gA G 100 0) (dr := gA G 101 0) hga)) ?_
                refine pw_if_eqB r_10_weighSets_53 (fun h53 => ?_) (fun h53 => ?_)
                · skip
                  refine pw_const r_10_weighSets_60 ?_
                  refine pw_istore (ls' := [some (vR 10 (0)), some (vI (0)), some (vI (x)), some (vI (0))]) r_10_weighSets_61 rfl rfl ?_
                  refine pw_aload r_10_weighSets_62 rfl ?_
                  refine pw_getR r_10_weighSets_63 fs_10_11 (by decide) ?_
                  refine pw_iload r_10_weighSets_66 rfl ?_
                  refine pw_aaldS r_10_weighSets_67 sh104 (by decide) (by decide) aS104 rw105 (by omega) (by omega) ?_
                  refine pw_iload r_10_weighSets_68 rfl ?_
                  refine pw_iload r_10_weighSets_69 rfl ?_
                  refine pw_if_eq r_10_weighSets_70 (fun h70 => ?_) (fun h70 => absurd h70 (by decide))
                  refine pw_const r_10_weighSets_77 ?_
                  refine pw_iast r_10_weighSets_78 sh105 (by omega) (by omega) ?_
                  refine pw_aload r_10_weighSets_79 rfl ?_
                  refine pw_getR r_10_weighSets_80 fs_10_10 (by decide) ?_
                  refine pw_const r_10_weighSets_83 ?_
                  refine pw_iload r_10_weighSets_84 rfl ?_
                  refine pw_imul r_10_weighSets_85 (by omega) ?_
                  refine pw_top (b := 0) (by decide) ?_
                  refine pw_aaldS r_10_weighSets_86 sh102 (by decide) (by decide) aS102 rw103 (by omega) (by omega) ?_
                  refine pw_iload r_10_weighSets_87 rfl ?_
                  refine pw_aload r_10_weighSets_88 rfl ?_
                  refine pw_iload r_10_weighSets_89 rfl ?_
                  refine pw_iload r_10_weighSets_90 rfl ?_
                  refine pw_const r_10_weighSets_91 ?_
                  refine pw_callV (av := [vI (0), vI (x), vI (0)]) (st := [vI (x), vR 103 (0)]) (ls0 := [some (vR 10 (0)), some (vI (0)), some (vI (x)), some (vI (0)), none, none]) r_10_weighSets_92 rfl rfl rfl (Nat.le_refl _) ?_
                  refine sp_X10_sumWorth (by decide) (by exact hn) (by decide) ?_
                  refine pw_top (b := smF (gA G 99 (2 * 0 + 0)) x (gA G 94 (0) (0))) (by first | rfl | simp (disch := decide) [gF_sF, gF_sA, gF_uA, gF_sD, gA_sF, gA_sA, gA_uA, gA_sD, gD_sF, gD_sA, gD_uA, gD_sD]) ?_
                  refine pw_iast r_10_weighSets_95 sh103 (by omega) (by omega) ?_
                  refine pw_aload r_10_weighSets_96 rfl ?_
                  refine pw_getR r_10_weighSets_97 fs_10_10 (by decide) ?_
                  refine pw_const r_10_weighSets_100 ?_
                  refine pw_iload r_10_weighSets_101 rfl ?_
                  refine pw_imul r_10_weighSets_102 (by omega) ?_
                  refine pw_top (b := 0) (by decide) ?_
                  refine pw_const r_10_weighSets_103 ?_
                  refine pw_iadd r_10_weighSets_104 (by omega) ?_
                  refine pw_top (b := 1) (by decide) ?_
                  refine pw_aaldS r_10_weighSets_105 sh102 (by decide) (by decide) aS102 rw103 (by omega) (by omega) ?_
                  refine pw_iload r_10_weighSets_106 rfl ?_
                  refine pw_aload r_10_weighSets_107 rfl ?_
                  refine pw_iload r_10_weighSets_108 rfl ?_
                  refine pw_iload r_10_weighSets_109 rfl ?_
                  refine pw_const r_10_weighSets_110 ?_
                  refine pw_callV (av := [vI (0), vI (x), vI (1)]) (st := [vI (x), vR 103 (1)]) (ls0 := [some (vR 10 (0)), some (vI (0)), some (vI (x)), some (vI (1)), none, none]) r_10_weighSets_111 rfl rfl rfl (Nat.le_refl _) ?_
                  refine sp_X10_sumWorth (by decide) (by exact hn) (by decide) ?_
                  refine pw_top (b := smF (gA G 99 (2 * 0 + 1)) x (gA G 94 (0) (0))) (by first | rfl | simp (disch := decide) [gF_sF, gF_sA, gF_uA, gF_sD, gA_sF, gA_sA, gA_uA, gA_sD, gD_sF, gD_sA, gD_uA, gD_sD]) ?_
                  refine pw_iast r_10_weighSets_114 sh103 (by omega) (by omega) ?_
                  refine pw_iinc (b := 0) (ls' := [some (vR 10 (0)), some (vI (0)), some (vI ((x + 1))), some (vI (0))]) r_10_weighSets_115 rfl rfl (by omega) rfl ?_
                  refine pw_goto r_10_weighSets_118 ?_
                  refine pw_weakL (ls' := [some (vR 10 (0)), some (vI (0)), some (vI ((x + 1))), none]) (⟨rfl, ⟨rfl, ⟨rfl, trivial⟩⟩⟩) ?_
                  refine pw_eqG (G' := uA (uA (uA G 105 (0) ((upA mg x 1))) 103 (0) ((upA s0 x (smF (gA G 99 (2 * 0 + 0)) x (gA G 94 (0) (0)))))) 103 (1) ((upA s1 x (smF (gA G 99 (2 * 0 + 1)) x (gA G 94 (0) (0)))))) (by simp (disch := decide) only [sA_uA, sA_uA_ne, sA_uA_row]) ?_
                  exact ih2 ((x + 1)) ((upA mg x 1)) ((upA s0 x (smF (gA G 99 (2 * 0 + 0)) x (gA G 94 (0) (0))))) ((upA s1 x (smF (gA G 99 (2 * 0 + 1)) x (gA G 94 (0) (0))))) (by first | assumption | omega) (by intro y y0 y1; by_cases z : y = x; rw [z, upA_same, upA_same, upA_same]; refine ⟨?_, fun na => ⟨?_, ?_⟩⟩; (exact (b2i_t ⟨h25, h35, h44, h53⟩).symm); exact sum_w0 (bars := gA G 97) (wor := gA G 99) hwa hn.1 na; exact sum_w1 (bars := gA G 97) (wor := gA G 99) hwa hn.1 na; rw [upA_ne z, upA_ne z, upA_ne z]; exact hx y y0 (by omega)) (by omega)
                · skip
                  refine pw_const r_10_weighSets_56 ?_
                  refine pw_goto r_10_weighSets_57 ?_
                  refine pw_istore (ls' := [some (vR 10 (0)), some (vI (0)), some (vI (x)), some (vI (1))]) r_10_weighSets_61 rfl rfl ?_
                  refine pw_aload r_10_weighSets_62 rfl ?_
                  refine pw_getR r_10_weighSets_63 fs_10_11 (by decide) ?_
                  refine pw_iload r_10_weighSets_66 rfl ?_
                  refine pw_aaldS r_10_weighSets_67 sh104 (by decide) (by decide) aS104 rw105 (by omega) (by omega) ?_
                  refine pw_iload r_10_weighSets_68 rfl ?_
                  refine pw_iload r_10_weighSets_69 rfl ?_
                  refine pw_if_eq r_10_weighSets_70 (fun h70 => absurd h70 (by decide)) (fun h70 => ?_)
                  refine pw_const r_10_weighSets_73 ?_
                  refine pw_goto r_10_weighSets_74 ?_
                  refine pw_iast r_10_weighSets_78 sh105 (by omega) (by omega) ?_
                  refine pw_aload r_10_weighSets_79 rfl ?_
                  refine pw_getR r_10_weighSets_80 fs_10_10 (by decide) ?_
                  refine pw_const r_10_weighSets_83 ?_
                  refine pw_iload r_10_weighSets_84 rfl ?_
                  refine pw_imul r_10_weighSets_85 (by omega) ?_
                  refine pw_top (b := 0) (by decide) ?_
                  refine pw_aaldS r_10_weighSets_86 sh102 (by decide) (by decide) aS102 rw103 (by omega) (by omega) ?_
                  refine pw_iload r_10_weighSets_87 rfl ?_
                  refine pw_aload r_10_weighSets_88 rfl ?_
                  refine pw_iload r_10_weighSets_89 rfl ?_
                  refine pw_iload r_10_weighSets_90 rfl ?_
                  refine pw_const r_10_weighSets_91 ?_
                  refine pw_callV (av := [vI (0), vI (x), vI (0)]) (st := [vI (x), vR 103 (0)]) (ls0 := [some (vR 10 (0)), some (vI (0)), some (vI (x)), some (vI (0)), none, none]) r_10_weighSets_92 rfl rfl rfl (Nat.le_refl _) ?_
                  refine sp_X10_sumWorth (by decide) (by exact hn) (by decide) ?_
                  refine pw_top (b := smF (gA G 99 (2 * 0 + 0)) x (gA G 94 (0) (0))) (by first | rfl | simp (disch := decide) [gF_sF, gF_sA, gF_uA, gF_sD, gA_sF, gA_sA, gA_uA, gA_sD, gD_sF, gD_sA, gD_uA, gD_sD]) ?_
                  refine pw_iast r_10_weighSets_95 sh103 (by omega) (by omega) ?_
                  refine pw_aload r_10_weighSets_96 rfl ?_
                  refine pw_getR r_10_weighSets_97 fs_10_10 (by decide) ?_
                  refine pw_const r_10_weighSets_100 ?_
                  refine pw_iload r_10_weighSets_101 rfl ?_
                  refine pw_imul r_10_weighSets_102 (by omega) ?_
                  refine pw_top (b := 0) (by decide) ?_
                  refine pw_const r_10_weighSets_103 ?_
                  refine pw_iadd r_10_weighSets_104 (by omega) ?_
                  refine pw_top (b := 1) (by decide) ?_
                  refine pw_aaldS r_10_weighSets_105 sh102 (by decide) (by decide) aS102 rw103 (by omega) (by omega) ?_
                  refine pw_iload r_10_weighSets_106 rfl ?_
                  refine pw_aload r_10_weighSets_107 rfl ?_
                  refine pw_iload r_10_weighSets_108 rfl ?_
                  refine pw_iload r_10_weighSets_109 rfl ?_
                  refine pw_const r_10_weighSets_110 ?_
                  refine pw_callV (av := [vI (0), vI (x), vI (1)]) (st := [vI (x), vR 103 (1)]) (ls0 := [some (vR 10 (0)), some (vI (0)), some (vI (x)), some (vI (1)), none, none]) r_10_weighSets_111 rfl rfl rfl (Nat.le_refl _) ?_
                  refine sp_X10_sumWorth (by decide) (by exact hn) (by decide) ?_
                  refine pw_top (b := smF (gA G 99 (2 * 0 + 1)) x (gA G 94 (0) (0))) (by first | rfl | simp (disch := decide) [gF_sF, gF_sA, gF_uA, gF_sD, gA_sF, gA_sA, gA_uA, gA_sD, gD_sF, gD_sA, gD_uA, gD_sD]) ?_
                  refine pw_iast r_10_weighSets_114 sh103 (by omega) (by omega) ?_
                  refine pw_iinc (b := 0) (ls' := [some (vR 10 (0)), some (vI (0)), some (vI ((x + 1))), some (vI (1))]) r_10_weighSets_115 rfl rfl (by omega) rfl ?_
                  refine pw_goto r_10_weighSets_118 ?_
                  refine pw_weakL (ls' := [some (vR 10 (0)), some (vI (0)), some (vI ((x + 1))), none]) (⟨rfl, ⟨rfl, ⟨rfl, trivial⟩⟩⟩) ?_
                  refine pw_eqG (G' := uA (uA (uA G 105 (0) ((upA mg x 0))) 103 (0) ((upA s0 x (smF (gA G 99 (2 * 0 + 0)) x (gA G 94 (0) (0)))))) 103 (1) ((upA s1 x (smF (gA G 99 (2 * 0 + 1)) x (gA G 94 (0) (0)))))) (by simp (disch := decide) only [sA_uA, sA_uA_ne, sA_uA_row]) ?_
                  exact ih2 ((x + 1)) ((upA mg x 0)) ((upA s0 x (smF (gA G 99 (2 * 0 + 0)) x (gA G 94 (0) (0))))) ((upA s1 x (smF (gA G 99 (2 * 0 + 1)) x (gA G 94 (0) (0))))) (by first | assumption | omega) (by intro y y0 y1; by_cases z : y = x; rw [z, upA_same, upA_same, upA_same]; refine ⟨?_, fun na => ⟨?_, ?_⟩⟩; (exact (b2i_f (fun z => z.2.2.2 h53)).symm); exact sum_w0 (bars := gA G 97) (wor := gA G 99) hwa hn.1 na; exact sum_w1 (bars := gA G 97) (wor := gA G 99) hwa hn.1 na; rw [upA_ne z, upA_ne z, upA_ne z]; exact hx y y0 (by omega)) (by omega)
  refine pw_eqG (G' := uA (uA (uA G 105 (0) ((gA G 105 0))) 103 (0) ((gA G 103 0))) 103 (1) ((gA G 103 1))) (by rw [uA_own, uA_own, uA_own]) ?_
  exact L2 _ (0) ((gA G 105 0)) ((gA G 103 0)) ((gA G 103 1)) (by first | assumption | omega) (fun y a b => by omega) (Nat.lt_succ_self _)
set_option maxRecDepth 10000 in
theorem wset1 {l : Launch} {w : Wo} {d : Nat} {G : PH} {P : Option PV → PH → Prop} {ST : Int → Int → Int → Prop} {WT : Int → Int → Int → Int → Int}  (hp : ∀ i, 0 ≤ i → i < (gF G 1 0 1) → gD G 30 0 i = some (3, i)) (hsz : 0 ≤ (gF G 1 0 1) ∧ (gF G 1 0 1) ≤ 150) (hn : 0 ≤ (gA G 94 0 (1)) ∧ (gA G 94 0 (1)) ≤ 7) (hlv : ∀ i, 0 ≤ i → i < (gA G 94 0 (1)) → 0 ≤ (gA G 93 (1) (i)) ∧ (gA G 93 (1) (i)) < (gF G 1 0 1)) (hdi : ∀ i j, 0 ≤ i → i < j → j < (gA G 94 0 (1)) → (gA G 93 (1) (i)) ≠ (gA G 93 (1) (j))) (hr : 1 ≤ (gF G 10 0 5) ∧ (gF G 10 0 5) ≤ 99) (hwa : ∀ i, 0 ≤ i → i < (gA G 94 0 (1)) → wOk (fun p => (gF G 3 (p) 8)) (fun p => ST p (gF G 1 0 2) (gF G 1 0 2)) (fun p => WT p 0 (gF G 1 0 2) (gF G 1 0 2)) (fun p => WT p 1 (gF G 1 0 2) (gF G 1 0 2)) (gA G 93) (gA G 97) (gA G 99) 1 i) (hga : ∀ c, 0 ≤ c → c < 16 → (gA G 100 0 (c)) = cgC G c ∧ (gA G 101 0 (c)) = ciC G c 1) (hsh : pShl 1 (gA G 94 0 (1)) ≤ 128) (hP : ∀ mg s0 s1 : Int → Int, (∀ x, 0 ≤ x → x < pShl 1 (gA G 94 0 (1)) → mg x = b2i (okC G ST 1 x) ∧ (¬ awC G 1 x → s0 x = wfC G WT 1 0 x ∧ s1 x = wfC G WT 1 1 x)) → P none (uA (uA (uA G 105 1 (mg)) 103 2 (s0)) 103 3 (s1))) : PW l w M_X10_weighSets (d + 2) 0 [some (vR 10 (0)), some (vI (1)), none, none] [] G P := by
  refine pw_const r_10_weighSets_0 ?_
  refine pw_istore (ls' := [some (vR 10 (0)), some (vI (1)), some (vI (0)), none]) r_10_weighSets_1 rfl rfl ?_
  have L2 : ∀ (nF : Nat) (x : Int) (mg s0 s1 : Int → Int), (hx0 : 0 ≤ x ∧ x ≤ 128) → (hx : ∀ y, 0 ≤ y → y < x → mg y = b2i (okC G ST 1 y) ∧ (¬ awC G 1 y → s0 y = wfC G WT 1 0 y ∧ s1 y = wfC G WT 1 1 y)) → (128 - x).toNat < nF → PW l w M_X10_weighSets (d + 2) 2 [some (vR 10 (0)), some (vI (1)), some (vI (x)), none] [] (uA (uA (uA G 105 (1) (mg)) 103 (2) (s0)) 103 (3) (s1)) P := by
    intro nF
    induction nF with
    | zero => intro _ _ _ _ _ _ hM; exact absurd hM (Nat.not_lt_zero _)
    | succ nF ih2 =>
      intro x mg s0 s1 hx0 hx hM2
      refine pw_aload r_10_weighSets_2 rfl ?_
      refine pw_iload r_10_weighSets_3 rfl ?_
      refine pw_iload r_10_weighSets_4 rfl ?_
      refine pw_callV (av := [vI (1), vI (x)]) (st := []) (ls0 := [some (vR 10 (0)), some (vI (1)), some (vI (x))]) r_10_weighSets_5 rfl rfl rfl (Nat.le_refl _) ?_
      refine sp_X10_isSetOf (by decide) ?_
      refine pw_top (b := b2i (0 ≤ x ∧ x < pShl 1 (gA G 94 (0) (1)))) (by first | rfl | simp (disch := decide) [gF_sF, gF_sA, gF_uA, gF_sD, gA_sF, gA_sA, gA_uA, gA_sD, gD_sF, gD_sA, gD_uA, gD_sD]) ?_
      refine pw_if_eqB r_10_weighSets_8 (fun h08 => ?_) (fun h08 => ?_)
      · skip
        refine pw_vret r_10_weighSets_121 rfl (Nat.le_refl _) ⟨rfl, ?_⟩
        first | exact hP mg s0 s1 (fun y a b => hx y a (by omega))
      · skip
        refine pw_iload r_10_weighSets_11 rfl ?_
        refine pw_const r_10_weighSets_12 ?_
        refine pw_icmp_ge r_10_weighSets_15 (fun h15 => ?_) (fun h15 => ?_)
        · skip
          refine pw_vret r_10_weighSets_121 rfl (Nat.le_refl _) ⟨rfl, ?_⟩
          first | exact hP mg s0 s1 (fun y a b => hx y a (by omega))
        · skip
          refine pw_aload r_10_weighSets_18 rfl ?_
          refine pw_iload r_10_weighSets_19 rfl ?_
          refine pw_iload r_10_weighSets_20 rfl ?_
          refine pw_const r_10_weighSets_21 ?_
          refine pw_callV (av := [vI (1), vI (x), vI (1)]) (st := []) (ls0 := [some (vR 10 (0)), some (vI (1)), some (vI (x)), some (vI (1)), none]) r_10_weighSets_22 rfl rfl rfl (Nat.le_refl _) ?_
          refine sp_X10_isBarred (by decide) (by exact hn) ?_
          refine pw_top (b := b2i (∃ i, 0 ≤ i ∧ i < (gA G 94 (0) (1)) ∧ bt x i ∧ (gA G 97 (1) (i)) = 1)) (by first | rfl | simp (disch := decide) [gF_sF, gF_sA, gF_uA, gF_sD, gA_sF, gA_sA, gA_uA, gA_sD, gD_sF, gD_sA, gD_uA, gD_sD]) ?_
          refine pw_top (b := b2i (awC G 1 x)) (b2i_iff (bar_aw (bars := gA G 97) (wor := gA G 99) hwa)) ?_
          refine pw_if_neB r_10_weighSets_25 (fun h25 => ?_) (fun h25 => ?_)
          · skip
            refine pw_const r_10_weighSets_56 ?_
            refine pw_goto r_10_weighSets_57 ?_
            refine pw_istore (ls' := [some (vR 10 (0)), some (vI (1)), some (vI (x)), some (vI (1))]) r_10_weighSets_61 rfl rfl ?_
            refine pw_aload r_10_weighSets_62 rfl ?_
            refine pw_getR r_10_weighSets_63 fs_10_11 (by decide) ?_
            refine pw_iload r_10_weighSets_66 rfl ?_
            refine pw_aaldS r_10_weighSets_67 sh104 (by decide) (by decide) aS104 rw105 (by omega) (by omega) ?_
            refine pw_iload r_10_weighSets_68 rfl ?_
            refine pw_iload r_10_weighSets_69 rfl ?_
            refine pw_if_eq r_10_weighSets_70 (fun h70 => absurd h70 (by decide)) (fun h70 => ?_)
            refine pw_const r_10_weighSets_73 ?_
            refine pw_goto r_10_weighSets_74 ?_
            refine pw_iast r_10_weighSets_78 sh105 (by omega) (by omega) ?_
            refine pw_aload r_10_weighSets_79 rfl ?_
            refine pw_getR r_10_weighSets_80 fs_10_10 (by decide) ?_
            refine pw_const r_10_weighSets_83 ?_
            refine pw_iload r_10_weighSets_84 rfl ?_
            refine pw_imul r_10_weighSets_85 (by omega) ?_
            refine pw_top (b := 2) (by decide) ?_
            refine pw_aaldS r_10_weighSets_86 sh102 (by decide) (by decide) aS102 rw103 (by omega) (by omega) ?_
            refine pw_iload r_10_weighSets_87 rfl ?_
            refine pw_aload r_10_weighSets_88 rfl ?_
            refine pw_iload r_10_weighSets_89 rfl ?_
            refine pw_iload r_10_weighSets_90 rfl ?_
            refine pw_const r_10_weighSets_91 ?_
            refine pw_callV (av := [vI (1), vI (x), vI (0)]) (st := [vI (x), vR 103 (2)]) (ls0 := [some (vR 10 (0)), some (vI (1)), some (vI (x)), some (vI (0)), none, none]) r_10_weighSets_92 rfl rfl rfl (Nat.le_refl _) ?_
            refine sp_X10_sumWorth (by decide) (by exact hn) (by decide) ?_
            refine pw_top (b := smF (gA G 99 (2 * 1 + 0)) x (gA G 94 (0) (1))) (by first | rfl | simp (disch := decide) [gF_sF, gF_sA, gF_uA, gF_sD, gA_sF, gA_sA, gA_uA, gA_sD, gD_sF, gD_sA, gD_uA, gD_sD]) ?_
            refine pw_iast r_10_weighSets_95 sh103 (by omega) (by omega) ?_
            refine pw_aload r_10_weighSets_96 rfl ?_
            refine pw_getR r_10_weighSets_97 fs_10_10 (by decide) ?_
            refine pw_const r_10_weighSets_100 ?_
            refine pw_iload r_10_weighSets_101 rfl ?_
            refine pw_imul r_10_weighSets_102 (by omega) ?_
            refine pw_top (b := 2) (by decide) ?_
            refine pw_const r_10_weighSets_103 ?_
            refine pw_iadd r_10_weighSets_104 (by omega) ?_
            refine pw_top (b := 3) (by decide) ?_
            refine pw_aaldS r_10_weighSets_105 sh102 (by decide) (by decide) aS102 rw103 (by omega) (by omega) ?_
            refine pw_iload r_10_weighSets_106 rfl ?_
            refine pw_aload r_10_weighSets_107 rfl ?_
            refine pw_iload r_10_weighSets_108 rfl ?_
            refine pw_iload r_10_weighSets_109 rfl ?_
            refine pw_const r_10_weighSets_110 ?_
            refine pw_callV (av := [vI (1), vI (x), vI (1)]) (st := [vI (x), vR 103 (3)]) (ls0 := [some (vR 10 (0)), some (vI (1)), some (vI (x)), some (vI (1)), none, none]) r_10_weighSets_111 rfl rfl rfl (Nat.le_refl _) ?_
            refine sp_X10_sumWorth (by decide) (by exact hn) (by decide) ?_
            refine pw_top (b := smF (gA G 99 (2 * 1 + 1)) x (gA G 94 (0) (1))) (by first | rfl | simp (disch := decide) [gF_sF, gF_sA, gF_uA, gF_sD, gA_sF, gA_sA, gA_uA, gA_sD, gD_sF, gD_sA, gD_uA, gD_sD]) ?_
            refine pw_iast r_10_weighSets_114 sh103 (by omega) (by omega) ?_
            refine pw_iinc (b := 0) (ls' := [some (vR 10 (0)), some (vI (1)), some (vI ((x + 1))), some (vI (1))]) r_10_weighSets_115 rfl rfl (by omega) rfl ?_
            refine pw_goto r_10_weighSets_118 ?_
            refine pw_weakL (ls' := [some (vR 10 (0)), some (vI (1)), some (vI ((x + 1))), none]) (⟨rfl, ⟨rfl, ⟨rfl, trivial⟩⟩⟩) ?_
            refine pw_eqG (G' := uA (uA (uA G 105 (1) ((upA mg x 0))) 103 (2) ((upA s0 x (smF (gA G 99 (2 * 1 + 0)) x (gA G 94 (0) (1)))))) 103 (3) ((upA s1 x (smF (gA G 99 (2 * 1 + 1)) x (gA G 94 (0) (1)))))) (by simp (disch := decide) only [sA_uA, sA_uA_ne, sA_uA_row]) ?_
            exact ih2 ((x + 1)) ((upA mg x 0)) ((upA s0 x (smF (gA G 99 (2 * 1 + 0)) x (gA G 94 (0) (1))))) ((upA s1 x (smF (gA G 99 (2 * 1 + 1)) x (gA G 94 (0) (1))))) (by first | assumption | omega) (by intro y y0 y1; by_cases z : y = x; rw [z, upA_same, upA_same, upA_same]; refine ⟨?_, fun na => ⟨?_, ?_⟩⟩; (exact (b2i_f (fun z => z.1 h25)).symm); exact sum_w0 (bars := gA G 97) (wor := gA G 99) hwa hn.1 na; exact sum_w1 (bars := gA G 97) (wor := gA G 99) hwa hn.1 na; rw [upA_ne z, upA_ne z, upA_ne z]; exact hx y y0 (by omega)) (by omega)
          · skip
            refine pw_aload r_10_weighSets_28 rfl ?_
            refine pw_iload r_10_weighSets_29 rfl ?_
            refine pw_iload r_10_weighSets_30 rfl ?_
            refine pw_const r_10_weighSets_31 ?_
            refine pw_callV (av := [vI (1), vI (x), vI (2)]) (st := []) (ls0 := [some (vR 10 (0)), some (vI (1)), some (vI (x)), some (vI (2)), none]) r_10_weighSets_32 rfl rfl rfl (Nat.le_refl _) ?_
            refine sp_X10_isBarred (by decide) (by exact hn) ?_
            refine pw_top (b := b2i (∃ i, 0 ≤ i ∧ i < (gA G 94 (0) (1)) ∧ bt x i ∧ (gA G 97 (1) (i)) = 2)) (by first | rfl | simp (disch := decide) [gF_sF, gF_sA, gF_uA, gF_sD, gA_sF, gA_sA, gA_uA, gA_sD, gD_sF, gD_sA, gD_uA, gD_sD]) ?_
            refine pw_top (b := b2i (syC G ST 1 x)) (b2i_iff (bar_sy (bars := gA G 97) (wor := gA G 99) hwa h25)) ?_
            refine pw_if_neB r_10_weighSets_35 (fun h35 => ?_) (fun h35 => ?_)
            · skip
              refine pw_const r_10_weighSets_56 ?_
              refine pw_goto r_10_weighSets_57 ?_
              refine pw_istore (ls' := [some (vR 10 (0)), some (vI (1)), some (vI (x)), some (vI (1))]) r_10_weighSets_61 rfl rfl ?_
              refine pw_aload r_10_weighSets_62 rfl ?_
              refine pw_getR r_10_weighSets_63 fs_10_11 (by decide) ?_
              refine pw_iload r_10_weighSets_66 rfl ?_
              refine pw_aaldS r_10_weighSets_67 sh104 (by decide) (by decide) aS104 rw105 (by omega) (by omega) ?_
              refine pw_iload r_10_weighSets_68 rfl ?_
              refine pw_iload r_10_weighSets_69 rfl ?_
              refine pw_if_eq r_10_weighSets_70 (fun h70 => absurd h70 (by decide)) (fun h70 => ?_)
              refine pw_const r_10_weighSets_73 ?_
              refine pw_goto r_10_weighSets_74 ?_
              refine pw_iast r_10_weighSets_78 sh105 (by omega) (by omega) ?_
              refine pw_aload r_10_weighSets_79 rfl ?_
              refine pw_getR r_10_weighSets_80 fs_10_10 (by decide) ?_
              refine pw_const r_10_weighSets_83 ?_
              refine pw_iload r_10_weighSets_84 rfl ?_
              refine pw_imul r_10_weighSets_85 (by omega) ?_
              refine pw_top (b := 2) (by decide) ?_
              refine pw_aaldS r_10_weighSets_86 sh102 (by decide) (by decide) aS102 rw103 (by omega) (by omega) ?_
              refine pw_iload r_10_weighSets_87 rfl ?_
              refine pw_aload r_10_weighSets_88 rfl ?_
              refine pw_iload r_10_weighSets_89 rfl ?_
              refine pw_iload r_10_weighSets_90 rfl ?_
              refine pw_const r_10_weighSets_91 ?_
              refine pw_callV (av := [vI (1), vI (x), vI (0)]) (st := [vI (x), vR 103 (2)]) (ls0 := [some (vR 10 (0)), some (vI (1)), some (vI (x)), some (vI (0)), none, none]) r_10_weighSets_92 rfl rfl rfl (Nat.le_refl _) ?_
              refine sp_X10_sumWorth (by decide) (by exact hn) (by decide) ?_
              refine pw_top (b := smF (gA G 99 (2 * 1 + 0)) x (gA G 94 (0) (1))) (by first | rfl | simp (disch := decide) [gF_sF, gF_sA, gF_uA, gF_sD, gA_sF, gA_sA, gA_uA, gA_sD, gD_sF, gD_sA, gD_uA, gD_sD]) ?_
              refine pw_iast r_10_weighSets_95 sh103 (by omega) (by omega) ?_
              refine pw_aload r_10_weighSets_96 rfl ?_
              refine pw_getR r_10_weighSets_97 fs_10_10 (by decide) ?_
              refine pw_const r_10_weighSets_100 ?_
              refine pw_iload r_10_weighSets_101 rfl ?_
              refine pw_imul r_10_weighSets_102 (by omega) ?_
              refine pw_top (b := 2) (by decide) ?_
              refine pw_const r_10_weighSets_103 ?_
              refine pw_iadd r_10_weighSets_104 (by omega) ?_
              refine pw_top (b := 3) (by decide) ?_
              refine pw_aaldS r_10_weighSets_105 sh102 (by decide) (by decide) aS102 rw103 (by omega) (by omega) ?_
              refine pw_iload r_10_weighSets_106 rfl ?_
              refine pw_aload r_10_weighSets_107 rfl ?_
              refine pw_iload r_10_weighSets_108 rfl ?_
              refine pw_iload r_10_weighSets_109 rfl ?_
              refine pw_const r_10_weighSets_110 ?_
              refine pw_callV (av := [vI (1), vI (x), vI (1)]) (st := [vI (x), vR 103 (3)]) (ls0 := [some (vR 10 (0)), some (vI (1)), some (vI (x)), some (vI (1)), none, none]) r_10_weighSets_111 rfl rfl rfl (Nat.le_refl _) ?_
              refine sp_X10_sumWorth (by decide) (by exact hn) (by decide) ?_
              refine pw_top (b := smF (gA G 99 (2 * 1 + 1)) x (gA G 94 (0) (1))) (by first | rfl | simp (disch := decide) [gF_sF, gF_sA, gF_uA, gF_sD, gA_sF, gA_sA, gA_uA, gA_sD, gD_sF, gD_sA, gD_uA, gD_sD]) ?_
              refine pw_iast r_10_weighSets_114 sh103 (by omega) (by omega) ?_
              refine pw_iinc (b := 0) (ls' := [some (vR 10 (0)), some (vI (1)), some (vI ((x + 1))), some (vI (1))]) r_10_weighSets_115 rfl rfl (by omega) rfl ?_
              refine pw_goto r_10_weighSets_118 ?_
              refine pw_weakL (ls' := [some (vR 10 (0)), some (vI (1)), some (vI ((x + 1))), none]) (⟨rfl, ⟨rfl, ⟨rfl, trivial⟩⟩⟩) ?_
              refine pw_eqG (G' := uA (uA (uA G 105 (1) ((upA mg x 0))) 103 (2) ((upA s0 x (smF (gA G 99 (2 * 1 + 0)) x (gA G 94 (0) (1)))))) 103 (3) ((upA s1 x (smF (gA G 99 (2 * 1 + 1)) x (gA G 94 (0) (1)))))) (by simp (disch := decide) only [sA_uA, sA_uA_ne, sA_uA_row]) ?_
              exact ih2 ((x + 1)) ((upA mg x 0)) ((upA s0 x (smF (gA G 99 (2 * 1 + 0)) x (gA G 94 (0) (1))))) ((upA s1 x (smF (gA G 99 (2 * 1 + 1)) x (gA G 94 (0) (1))))) (by first | assumption | omega) (by intro y y0 y1; by_cases z : y = x; rw [z, upA_same, upA_same, upA_same]; refine ⟨?_, fun na => ⟨?_, ?_⟩⟩; (exact (b2i_f (fun z => z.2.1 h35)).symm); exact sum_w0 (bars := gA G 97) (wor := gA G 99) hwa hn.1 na; exact sum_w1 (bars := gA G 97) (wor := gA G 99) hwa hn.1 na; rw [upA_ne z, upA_ne z, upA_ne z]; exact hx y y0 (by omega)) (by omega)
            · skip
              refine pw_aload r_10_weighSets_38 rfl ?_
              refine pw_iload r_10_weighSets_39 rfl ?_
              refine pw_iload r_10_weighSets_40 rfl ?_
              refine pw_callV (av := [vI (1), vI (x)]) (st := []) (ls0 := [some (vR 10 (0)), some (vI (1)), some (vI (x)), none, none, none]) r_10_weighSets_41 rfl rfl rfl (Nat.le_refl _) ?_
              refine sp_X10_partsChild (by exact hp) (by exact hsz) (by decide) (by exact hn) (by exact hlv) (by exact hdi) ?_
              refine pw_top (b := b2i (∃ i, 0 ≤ i ∧ i < (gA G 94 (0) (1)) ∧ (0 ≤ (gF G 3 ((gA G 93 (1) (i))) 4) ∧ ∃ j, 0 ≤ j ∧ j < (gA G 94 (0) (1)) ∧ (gA G 93 (1) (j)) = (gF G 3 ((gA G 93 (1) (i))) 4) ∧ ¬ (bt x i ↔ bt x j)))) (by first | rfl | simp (disch := decide) [gF_sF, gF_sA, gF_uA, gF_sD, gA_sF, gA_sA, gA_uA, gA_sD, gD_sF, gD_sA, gD_uA, gD_sD]) ?_
              refine pw_top (b := b2i (pcC G 1 x)) (b2i_iff (Iff.rfl)) ?_
              refine pw_if_neB r_10_weighSets_44 (fun h44 => ?_) (fun h44 => ?_)
              · skip
                refine pw_const r_10_weighSets_56 ?_
                refine pw_goto r_10_weighSets_57 ?_
                refine pw_istore (ls' := [some (vR 10 (0)), some (vI (1)), some (vI (x)), some (vI (1))]) r_10_weighSets_61 rfl rfl ?_
                refine pw_aload r_10_weighSets_62 rfl ?_
                refine pw_getR r_10_weighSets_63 fs_10_11 (by decide) ?_
                refine pw_iload r_10_weighSets_66 rfl ?_
                refine pw_aaldS r_10_weighSets_67 sh104 (by decide) (by decide) aS104 rw105 (by omega) (by omega) ?_
                refine pw_iload r_10_weighSets_68 rfl ?_
                refine pw_iload r_10_weighSets_69 rfl ?_
                refine pw_if_eq r_10_weighSets_70 (fun h70 => absurd h70 (by decide)) (fun h70 => ?_)
                refine pw_const r_10_weighSets_73 ?_
                refine pw_goto r_10_weighSets_74 ?_
                refine pw_iast r_10_weighSets_78 sh105 (by omega) (by omega) ?_
                refine pw_aload r_10_weighSets_79 rfl ?_
                refine pw_getR r_10_weighSets_80 fs_10_10 (by decide) ?_
                refine pw_const r_10_weighSets_83 ?_
                refine pw_iload r_10_weighSets_84 rfl ?_
                refine pw_imul r_10_weighSets_85 (by omega) ?_
                refine pw_top (b := 2) (by decide) ?_
                refine pw_aaldS r_10_weighSets_86 sh102 (by decide) (by decide) aS102 rw103 (by omega) (by omega) ?_
                refine pw_iload r_10_weighSets_87 rfl ?_
                refine pw_aload r_10_weighSets_88 rfl ?_
                refine pw_iload r_10_weighSets_89 rfl ?_
                refine pw_iload r_10_weighSets_90 rfl ?_
                refine pw_const r_10_weighSets_91 ?_
                refine pw_callV (av := [vI (1), vI (x), vI (0)]) (st := [vI (x), vR 103 (2)]) (ls0 := [some (vR 10 (0)), some (vI (1)), some (vI (x)), some (vI (0)), none, none]) r_10_weighSets_92 rfl rfl rfl (Nat.le_refl _) ?_
                refine sp_X10_sumWorth (by decide) (by exact hn) (by decide) ?_
                refine pw_top (b := smF (gA G 99 (2 * 1 + 0)) x (gA G 94 (0) (1))) (by first | rfl | simp (disch := decide) [gF_sF, gF_sA, gF_uA, gF_sD, gA_sF, gA_sA, gA_uA, gA_sD, gD_sF, gD_sA, gD_uA, gD_sD]) ?_
                refine pw_iast r_10_weighSets_95 sh103 (by omega) (by omega) ?_
                refine pw_aload r_10_weighSets_96 rfl ?_
                refine pw_getR r_10_weighSets_97 fs_10_10 (by decide) ?_
                refine pw_const r_10_weighSets_100 ?_
                refine pw_iload r_10_weighSets_101 rfl ?_
                refine pw_imul r_10_weighSets_102 (by omega) ?_
                refine pw_top (b := 2) (by decide) ?_
                refine pw_const r_10_weighSets_103 ?_
                refine pw_iadd r_10_weighSets_104 (by omega) ?_
                refine pw_top (b := 3) (by decide) ?_
                refine pw_aaldS r_10_weighSets_105 sh102 (by decide) (by decide) aS102 rw103 (by omega) (by omega) ?_
                refine pw_iload r_10_weighSets_106 rfl ?_
                refine pw_aload r_10_weighSets_107 rfl ?_
                refine pw_iload r_10_weighSets_108 rfl ?_
                refine pw_iload r_10_weighSets_109 rfl ?_
                refine pw_const r_10_weighSets_110 ?_
                refine pw_callV (av := [vI (1), vI (x), vI (1)]) (st := [vI (x), vR 103 (3)]) (ls0 := [some (vR 10 (0)), some (vI (1)), some (vI (x)), some (vI (1)), none, none]) r_10_weighSets_111 rfl rfl rfl (Nat.le_refl _) ?_
                refine sp_X10_sumWorth (by decide) (by exact hn) (by decide) ?_
                refine pw_top (b := smF (gA G 99 (2 * 1 + 1)) x (gA G 94 (0) (1))) (by first | rfl | simp (disch := decide) [gF_sF, gF_sA, gF_uA, gF_sD, gA_sF, gA_sA, gA_uA, gA_sD, gD_sF, gD_sA, gD_uA, gD_sD]) ?_
                refine pw_iast r_10_weighSets_114 sh103 (by omega) (by omega) ?_
                refine pw_iinc (b := 0) (ls' := [some (vR 10 (0)), some (vI (1)), some (vI ((x + 1))), some (vI (1))]) r_10_weighSets_115 rfl rfl (by omega) rfl ?_
                refine pw_goto r_10_weighSets_118 ?_
                refine pw_weakL (ls' := [some (vR 10 (0)), some (vI (1)), some (vI ((x + 1))), none]) (⟨rfl, ⟨rfl, ⟨rfl, trivial⟩⟩⟩) ?_
                refine pw_eqG (G' := uA (uA (uA G 105 (1) ((upA mg x 0))) 103 (2) ((upA s0 x (smF (gA G 99 (2 * 1 + 0)) x (gA G 94 (0) (1)))))) 103 (3) ((upA s1 x (smF (gA G 99 (2 * 1 + 1)) x (gA G 94 (0) (1)))))) (by simp (disch := decide) only [sA_uA, sA_uA_ne, sA_uA_row]) ?_
                exact ih2 ((x + 1)) ((upA mg x 0)) ((upA s0 x (smF (gA G 99 (2 * 1 + 0)) x (gA G 94 (0) (1))))) ((upA s1 x (smF (gA G 99 (2 * 1 + 1)) x (gA G 94 (0) (1))))) (by first | assumption | omega) (by intro y y0 y1; by_cases z : y = x; rw [z, upA_same, upA_same, upA_same]; refine ⟨?_, fun na => ⟨?_, ?_⟩⟩; (exact (b2i_f (fun z => z.2.2.1 h44)).symm); exact sum_w0 (bars := gA G 97) (wor := gA G 99) hwa hn.1 na; exact sum_w1 (bars := gA G 97) (wor := gA G 99) hwa hn.1 na; rw [upA_ne z, upA_ne z, upA_ne z]; exact hx y y0 (by omega)) (by omega)
              · skip
                refine pw_aload r_10_weighSets_47 rfl ?_
                refine pw_iload r_10_weighSets_48 rfl ?_
                refine pw_iload r_10_weighSets_49 rfl ?_
                refine pw_callV (av := [vI (1), vI (x)]) (st := []) (ls0 := [some (vR 10 (0)), some (vI (1)), some (vI (x)), none, none, none, none, none]) r_10_weighSets_50 rfl rfl rfl (Nat.le_refl _) ?_
                refine sp_X10_lacksDoctors (by exact hp) (by exact hsz) (by decide) (by exact hn) (by exact hlv) (by exact hr) (by intro c a b; have h1 := hga c a b; have h2 := cg_in (G := G) hsz.1 c; have h3 := ci_in (G := G) hsz.1 c 1; show (0 ≤ (gA G 100 0 (c)) ∧ (gA G 100 0 (c)) ≤ 150) ∧ 0 ≤ (gA G 101 0 (c)) ∧ (gA G 101 0 (c)) ≤ 150; omega) ?_
                refine pw_top (b := b2i (∃ c, 0 ≤ c ∧ c < 16 ∧ ((gA G 101 (0) (c)) - cnt (fun i => (bt x i ∧ ((gF G 3 ((gA G 93 (1) (i))) 8) = 0 ∧ (gF G 3 ((gA G 93 (1) (i))) 10) = c)) ∧ (gF G 3 ((gA G 93 (1) (i))) 1) = 3) (gA G 94 (0) (1)) < min (pDiv ((gA G 100 (0) (c)) - cnt (fun i => (bt x i ∧ ((gF G 3 ((gA G 93 (1) (i))) 8) = 0 ∧ (gF G 3 ((gA G 93 (1) (i))) 10) = c)) ∧ 0 < (gF G 3 ((gA G 93 (1) (i))) 6)) (gA G 94 (0) (1)) + (gF G 10 (0) 5) - 1) (gF G 10 (0) 5)) (gA G 101 (0) (c))))) (by first | rfl | simp (disch := decide) [gF_sF, gF_sA, gF_uA, gF_sD, gA_sF, gA_sA, gA_uA, gA_sD, gD_sF, gD_sA, gD_uA, gD_sD]) ?_
                refine pw_top (b := b2i (ldC G 1 x)) (b2i_iff (ld_iff (gr := gA G 100 0) (dr := gA G 101 0) hga)) ?_
                refine pw_if_eqB r_10_weighSets_53 (fun h53 => ?_) (fun h53 => ?_)
                · skip
                  refine pw_const r_10_weighSets_60 ?_
                  refine pw_istore (ls' := [some (vR 10 (0)), some (vI (1)), some (vI (x)), some (vI (0))]) r_10_weighSets_61 rfl rfl ?_
                  refine pw_aload r_10_weighSets_62 rfl ?_
                  refine pw_getR r_10_weighSets_63 fs_10_11 (by decide) ?_
                  refine pw_iload r_10_weighSets_66 rfl ?_
                  refine pw_aaldS r_10_weighSets_67 sh104 (by decide) (by decide) aS104 rw105 (by omega) (by omega) ?_
                  refine pw_iload r_10_weighSets_68 rfl ?_
                  refine pw_iload r_10_weighSets_69 rfl ?_
                  refine pw_if_eq r_10_weighSets_70 (fun h70 => ?_) (fun h70 => absurd h70 (by decide))
                  refine pw_const r_10_weighSets_77 ?_
                  refine pw_iast r_10_weighSets_78 sh105 (by omega) (by omega) ?_
                  refine pw_aload r_10_weighSets_79 rfl ?_
                  refine pw_getR r_10_weighSets_80 fs_10_10 (by decide) ?_
                  refine pw_const r_10_weighSets_83 ?_
                  refine pw_iload r_10_weighSets_84 rfl ?_
                  refine pw_imul r_10_weighSets_85 (by omega) ?_
                  refine pw_top (b := 2) (by decide) ?_
                  refine pw_aaldS r_10_weighSets_86 sh102 (by decide) (by decide) aS102 rw103 (by omega) (by omega) ?_
                  refine pw_iload r_10_weighSets_87 rfl ?_
                  refine pw_aload r_10_weighSets_88 rfl ?_
                  refine pw_iload r_10_weighSets_89 rfl ?_
                  refine pw_iload r_10_weighSets_90 rfl ?_
                  refine pw_const r_10_weighSets_91 ?_
                  refine pw_callV (av := [vI (1), vI (x), vI (0)]) (st := [vI (x), vR 103 (2)]) (ls0 := [some (vR 10 (0)), some (vI (1)), some (vI (x)), some (vI (0)), none, none]) r_10_weighSets_92 rfl rfl rfl (Nat.le_refl _) ?_
                  refine sp_X10_sumWorth (by decide) (by exact hn) (by decide) ?_
                  refine pw_top (b := smF (gA G 99 (2 * 1 + 0)) x (gA G 94 (0) (1))) (by first | rfl | simp (disch := decide) [gF_sF, gF_sA, gF_uA, gF_sD, gA_sF, gA_sA, gA_uA, gA_sD, gD_sF, gD_sA, gD_uA, gD_sD]) ?_
                  refine pw_iast r_10_weighSets_95 sh103 (by omega) (by omega) ?_
                  refine pw_aload r_10_weighSets_96 rfl ?_
                  refine pw_getR r_10_weighSets_97 fs_10_10 (by decide) ?_
                  refine pw_const r_10_weighSets_100 ?_
                  refine pw_iload r_10_weighSets_101 rfl ?_
                  refine pw_imul r_10_weighSets_102 (by omega) ?_
                  refine pw_top (b := 2) (by decide) ?_
                  refine pw_const r_10_weighSets_103 ?_
                  refine pw_iadd r_10_weighSets_104 (by omega) ?_
                  refine pw_top (b := 3) (by decide) ?_
                  refine pw_aaldS r_10_weighSets_105 sh102 (by decide) (by decide) aS102 rw103 (by omega) (by omega) ?_
                  refine pw_iload r_10_weighSets_106 rfl ?_
                  refine pw_aload r_10_weighSets_107 rfl ?_
                  refine pw_iload r_10_weighSets_108 rfl ?_
                  refine pw_iload r_10_weighSets_109 rfl ?_
                  refine pw_const r_10_weighSets_110 ?_
                  refine pw_callV (av := [vI (1), vI (x), vI (1)]) (st := [vI (x), vR 103 (3)]) (ls0 := [some (vR 10 (0)), some (vI (1)), some (vI (x)), some (vI (1)), none, none]) r_10_weighSets_111 rfl rfl rfl (Nat.le_refl _) ?_
                  refine sp_X10_sumWorth (by decide) (by exact hn) (by decide) ?_
                  refine pw_top (b := smF (gA G 99 (2 * 1 + 1)) x (gA G 94 (0) (1))) (by first | rfl | simp (disch := decide) [gF_sF, gF_sA, gF_uA, gF_sD, gA_sF, gA_sA, gA_uA, gA_sD, gD_sF, gD_sA, gD_uA, gD_sD]) ?_
                  refine pw_iast r_10_weighSets_114 sh103 (by omega) (by omega) ?_
                  refine pw_iinc (b := 0) (ls' := [some (vR 10 (0)), some (vI (1)), some (vI ((x + 1))), some (vI (0))]) r_10_weighSets_115 rfl rfl (by omega) rfl ?_
                  refine pw_goto r_10_weighSets_118 ?_
                  refine pw_weakL (ls' := [some (vR 10 (0)), some (vI (1)), some (vI ((x + 1))), none]) (⟨rfl, ⟨rfl, ⟨rfl, trivial⟩⟩⟩) ?_
                  refine pw_eqG (G' := uA (uA (uA G 105 (1) ((upA mg x 1))) 103 (2) ((upA s0 x (smF (gA G 99 (2 * 1 + 0)) x (gA G 94 (0) (1)))))) 103 (3) ((upA s1 x (smF (gA G 99 (2 * 1 + 1)) x (gA G 94 (0) (1)))))) (by simp (disch := decide) only [sA_uA, sA_uA_ne, sA_uA_row]) ?_
                  exact ih2 ((x + 1)) ((upA mg x 1)) ((upA s0 x (smF (gA G 99 (2 * 1 + 0)) x (gA G 94 (0) (1))))) ((upA s1 x (smF (gA G 99 (2 * 1 + 1)) x (gA G 94 (0) (1))))) (by first | assumption | omega) (by intro y y0 y1; by_cases z : y = x; rw [z, upA_same, upA_same, upA_same]; refine ⟨?_, fun na => ⟨?_, ?_⟩⟩; (exact (b2i_t ⟨h25, h35, h44, h53⟩).symm); exact sum_w0 (bars := gA G 97) (wor := gA G 99) hwa hn.1 na; exact sum_w1 (bars := gA G 97) (wor := gA G 99) hwa hn.1 na; rw [upA_ne z, upA_ne z, upA_ne z]; exact hx y y0 (by omega)) (by omega)
                · skip
                  refine pw_const r_10_weighSets_56 ?_
                  refine pw_goto r_10_weighSets_57 ?_
                  refine pw_istore (ls' := [some (vR 10 (0)), some (vI (1)), some (vI (x)), some (vI (1))]) r_10_weighSets_61 rfl rfl ?_
                  refine pw_aload r_10_weighSets_62 rfl ?_
                  refine pw_getR r_10_weighSets_63 fs_10_11 (by decide) ?_
                  refine pw_iload r_10_weighSets_66 rfl ?_
                  refine pw_aaldS r_10_weighSets_67 sh104 (by decide) (by decide) aS104 rw105 (by omega) (by omega) ?_
                  refine pw_iload r_10_weighSets_68 rfl ?_
                  refine pw_iload r_10_weighSets_69 rfl ?_
                  refine pw_if_eq r_10_weighSets_70 (fun h70 => absurd h70 (by decide)) (fun h70 => ?_)
                  refine pw_const r_10_weighSets_73 ?_
                  refine pw_goto r_10_weighSets_74 ?_
                  refine pw_iast r_10_weighSets_78 sh105 (by omega) (by omega) ?_
                  refine pw_aload r_10_weighSets_79 rfl ?_
                  refine pw_getR r_10_weighSets_80 fs_10_10 (by decide) ?_
                  refine pw_const r_10_weighSets_83 ?_
                  refine pw_iload r_10_weighSets_84 rfl ?_
                  refine pw_imul r_10_weighSets_85 (by omega) ?_
                  refine pw_top (b := 2) (by decide) ?_
                  refine pw_aaldS r_10_weighSets_86 sh102 (by decide) (by decide) aS102 rw103 (by omega) (by omega) ?_
                  refine pw_iload r_10_weighSets_87 rfl ?_
                  refine pw_aload r_10_weighSets_88 rfl ?_
                  refine pw_iload r_10_weighSets_89 rfl ?_
                  refine pw_iload r_10_weighSets_90 rfl ?_
                  refine pw_const r_10_weighSets_91 ?_
                  refine pw_callV (av := [vI (1), vI (x), vI (0)]) (st := [vI (x), vR 103 (2)]) (ls0 := [some (vR 10 (0)), some (vI (1)), some (vI (x)), some (vI (0)), none, none]) r_10_weighSets_92 rfl rfl rfl (Nat.le_refl _) ?_
                  refine sp_X10_sumWorth (by decide) (by exact hn) (by decide) ?_
                  refine pw_top (b := smF (gA G 99 (2 * 1 + 0)) x (gA G 94 (0) (1))) (by first | rfl | simp (disch := decide) [gF_sF, gF_sA, gF_uA, gF_sD, gA_sF, gA_sA, gA_uA, gA_sD, gD_sF, gD_sA, gD_uA, gD_sD]) ?_
                  refine pw_iast r_10_weighSets_95 sh103 (by omega) (by omega) ?_
                  refine pw_aload r_10_weighSets_96 rfl ?_
                  refine pw_getR r_10_weighSets_97 fs_10_10 (by decide) ?_
                  refine pw_const r_10_weighSets_100 ?_
                  refine pw_iload r_10_weighSets_101 rfl ?_
                  refine pw_imul r_10_weighSets_102 (by omega) ?_
                  refine pw_top (b := 2) (by decide) ?_
                  refine pw_const r_10_weighSets_103 ?_
                  refine pw_iadd r_10_weighSets_104 (by omega) ?_
                  refine pw_top (b := 3) (by decide) ?_
                  refine pw_aaldS r_10_weighSets_105 sh102 (by decide) (by decide) aS102 rw103 (by omega) (by omega) ?_
                  refine pw_iload r_10_weighSets_106 rfl ?_
                  refine pw_aload r_10_weighSets_107 rfl ?_
                  refine pw_iload r_10_weighSets_108 rfl ?_
                  refine pw_iload r_10_weighSets_109 rfl ?_
                  refine pw_const r_10_weighSets_110 ?_
                  refine pw_callV (av := [vI (1), vI (x), vI (1)]) (st := [vI (x), vR 103 (3)]) (ls0 := [some (vR 10 (0)), some (vI (1)), some (vI (x)), some (vI (1)), none, none]) r_10_weighSets_111 rfl rfl rfl (Nat.le_refl _) ?_
                  refine sp_X10_sumWorth (by decide) (by exact hn) (by decide) ?_
                  refine pw_top (b := smF (gA G 99 (2 * 1 + 1)) x (gA G 94 (0) (1))) (by first | rfl | simp (disch := decide) [gF_sF, gF_sA, gF_uA, gF_sD, gA_sF, gA_sA, gA_uA, gA_sD, gD_sF, gD_sA, gD_uA, gD_sD]) ?_
                  refine pw_iast r_10_weighSets_114 sh103 (by omega) (by omega) ?_
                  refine pw_iinc (b := 0) (ls' := [some (vR 10 (0)), some (vI (1)), some (vI ((x + 1))), some (vI (1))]) r_10_weighSets_115 rfl rfl (by omega) rfl ?_
                  refine pw_goto r_10_weighSets_118 ?_
                  refine pw_weakL (ls' := [some (vR 10 (0)), some (vI (1)), some (vI ((x + 1))), none]) (⟨rfl, ⟨rfl, ⟨rfl, trivial⟩⟩⟩) ?_
                  refine pw_eqG (G' := uA (uA (uA G 105 (1) ((upA mg x 0))) 103 (2) ((upA s0 x (smF (gA G 99 (2 * 1 + 0)) x (gA G 94 (0) (1)))))) 103 (3) ((upA s1 x (smF (gA G 99 (2 * 1 + 1)) x (gA G 94 (0) (1)))))) (by simp (disch := decide) only [sA_uA, sA_uA_ne, sA_uA_row]) ?_
                  exact ih2 ((x + 1)) ((upA mg x 0)) ((upA s0 x (smF (gA G 99 (2 * 1 + 0)) x (gA G 94 (0) (1))))) ((upA s1 x (smF (gA G 99 (2 * 1 + 1)) x (gA G 94 (0) (1))))) (by first | assumption | omega) (by intro y y0 y1; by_cases z : y = x; rw [z, upA_same, upA_same, upA_same]; refine ⟨?_, fun na => ⟨?_, ?_⟩⟩; (exact (b2i_f (fun z => z.2.2.2 h53)).symm); exact sum_w0 (bars := gA G 97) (wor := gA G 99) hwa hn.1 na; exact sum_w1 (bars := gA G 97) (wor := gA G 99) hwa hn.1 na; rw [upA_ne z, upA_ne z, upA_ne z]; exact hx y y0 (by omega)) (by omega)
  refine pw_eqG (G' := uA (uA (uA G 105 (1) ((gA G 105 1))) 103 (2) ((gA G 103 2))) 103 (3) ((gA G 103 3))) (by rw [uA_own, uA_own, uA_own]) ?_
  exact L2 _ (0) ((gA G 105 1)) ((gA G 103 2)) ((gA G 103 3)) (by first | assumption | omega) (fun y a b => by omega) (Nat.lt_succ_self _)
set_option maxRecDepth 10000 in
theorem sp_X10_isLet {l : Launch} {w : Wo} {d : Nat} {G : PH} {P : Option PV → PH → Prop} {a b : Int} (ha : 0 ≤ a ∧ a < 128) (hb : 0 ≤ b ∧ b < 128) (hP : P (some (vI (b2i ((gA G 105 0 (a)) = 1 ∧ (gA G 105 (1) (b)) = 1 ∧ (gA G 103 0 (a)) ≤ (gA G 103 (2) (b)) ∧ (gA G 103 (3) (b)) ≤ (gA G 103 (1) (a)))))) G) : PW l w M_X10_isLet (d + 0) 0 [some (vR 10 (0)), some (vI (a)), some (vI (b))] [] G P := by
  refine pw_aload r_10_isLet_0 rfl ?_
  refine pw_getR r_10_isLet_1 fs_10_11 (by decide) ?_
  refine pw_const r_10_isLet_4 ?_
  refine pw_aaldS r_10_isLet_5 sh104 (by decide) (by decide) aS104 rw105 (by omega) (by omega) ?_
  refine pw_iload r_10_isLet_6 rfl ?_
  refine pw_iald r_10_isLet_7 sh105 (by omega) (by omega) ?_
  refine pw_const r_10_isLet_8 ?_
  refine pw_icmp_ne r_10_isLet_9 (fun h09 => ?_) (fun h09 => ?_)
  · skip
    refine pw_const r_10_isLet_66 ?_
    refine pw_zret r_10_isLet_67 rfl (Or.inl rfl) (Nat.le_refl _) ⟨rfl, ?_⟩
    exact pe hP (by first | rfl | omega | exact (b2i_t (by omega)).symm | exact (b2i_f (by omega)).symm)
  · skip
    refine pw_aload r_10_isLet_12 rfl ?_
    refine pw_getR r_10_isLet_13 fs_10_11 (by decide) ?_
    refine pw_const r_10_isLet_16 ?_
    refine pw_aaldS r_10_isLet_17 sh104 (by decide) (by decide) aS104 rw105 (by omega) (by omega) ?_
    refine pw_iload r_10_isLet_18 rfl ?_
    refine pw_iald r_10_isLet_19 sh105 (by omega) (by omega) ?_
    refine pw_const r_10_isLet_20 ?_
    refine pw_icmp_ne r_10_isLet_21 (fun h21 => ?_) (fun h21 => ?_)
    · skip
      refine pw_const r_10_isLet_66 ?_
      refine pw_zret r_10_isLet_67 rfl (Or.inl rfl) (Nat.le_refl _) ⟨rfl, ?_⟩
      exact pe hP (by first | rfl | omega | exact (b2i_t (by omega)).symm | exact (b2i_f (by omega)).symm)
    · skip
      refine pw_aload r_10_isLet_24 rfl ?_
      refine pw_getR r_10_isLet_25 fs_10_10 (by decide) ?_
      refine pw_const r_10_isLet_28 ?_
      refine pw_aaldS r_10_isLet_29 sh102 (by decide) (by decide) aS102 rw103 (by omega) (by omega) ?_
      refine pw_iload r_10_isLet_30 rfl ?_
      refine pw_iald r_10_isLet_31 sh103 (by omega) (by omega) ?_
      refine pw_aload r_10_isLet_32 rfl ?_
      refine pw_getR r_10_isLet_33 fs_10_10 (by decide) ?_
      refine pw_const r_10_isLet_36 ?_
      refine pw_aaldS r_10_isLet_37 sh102 (by decide) (by decide) aS102 rw103 (by omega) (by omega) ?_
      refine pw_iload r_10_isLet_38 rfl ?_
      refine pw_iald r_10_isLet_39 sh103 (by omega) (by omega) ?_
      refine pw_icmp_gt r_10_isLet_40 (fun h40 => ?_) (fun h40 => ?_)
      · skip
        refine pw_const r_10_isLet_66 ?_
        refine pw_zret r_10_isLet_67 rfl (Or.inl rfl) (Nat.le_refl _) ⟨rfl, ?_⟩
        exact pe hP (by first | rfl | omega | exact (b2i_t (by omega)).symm | exact (b2i_f (by omega)).symm)
      · skip
        refine pw_aload r_10_isLet_43 rfl ?_
        refine pw_getR r_10_isLet_44 fs_10_10 (by decide) ?_
        refine pw_const r_10_isLet_47 ?_
        refine pw_aaldS r_10_isLet_48 sh102 (by decide) (by decide) aS102 rw103 (by omega) (by omega) ?_
        refine pw_iload r_10_isLet_49 rfl ?_
        refine pw_iald r_10_isLet_50 sh103 (by omega) (by omega) ?_
        refine pw_aload r_10_isLet_51 rfl ?_
        refine pw_getR r_10_isLet_52 fs_10_10 (by decide) ?_
        refine pw_const r_10_isLet_55 ?_
        refine pw_aaldS r_10_isLet_56 sh102 (by decide) (by decide) aS102 rw103 (by omega) (by omega) ?_
        refine pw_iload r_10_isLet_57 rfl ?_
        refine pw_iald r_10_isLet_58 sh103 (by omega) (by omega) ?_
        refine pw_icmp_gt r_10_isLet_59 (fun h59 => ?_) (fun h59 => ?_)
        · skip
          refine pw_const r_10_isLet_66 ?_
          refine pw_zret r_10_isLet_67 rfl (Or.inl rfl) (Nat.le_refl _) ⟨rfl, ?_⟩
          exact pe hP (by first | rfl | omega | exact (b2i_t (by omega)).symm | exact (b2i_f (by omega)).symm)
        · skip
          refine pw_const r_10_isLet_62 ?_
          refine pw_goto r_10_isLet_63 ?_
          refine pw_zret r_10_isLet_67 rfl (Or.inr rfl) (Nat.le_refl _) ⟨rfl, ?_⟩
          exact pe hP (by first | rfl | omega | exact (b2i_t (by omega)).symm | exact (b2i_f (by omega)).symm)
set_option maxRecDepth 10000 in
theorem sp_X10_chooseBest {l : Launch} {w : Wo} {d : Nat} {G : PH} {P : Option PV → PH → Prop} {ST : Int → Int → Int → Prop} {WT : Int → Int → Int → Int → Int} {SD : Int → Int → Int → Int → Int → Int × Int} {FC : Int → Int → Int → Int} {KC : Int → Int → Int → Int → Int} (hp : ∀ i, 0 ≤ i → i < (gF G 1 0 1) → gD G 30 0 i = some (3, i)) (hsz : 0 ≤ (gF G 1 0 1) ∧ (gF G 1 0 1) ≤ 150) (hf : 0 ≤ (gF G 9 0 0) ∧ (gF G 9 0 0) ≤ 300) (hpr : 0 ≤ (gF G 9 0 2) ∧ (gF G 9 0 2) ≤ 40) (htx : 0 ≤ (gF G 8 0 0) ∧ (gF G 8 0 0) ≤ 20) (hTX : txC G) (hSD : sdC G = SD) (hFC : fcC G = FC) (hKC : kC G = KC) (hnA : ∀ i, 0 ≤ i → i < (gF G 1 0 1) → (gF G 3 (i) 0) = i) (hcA : ∀ i, 0 ≤ i → i < (gF G 1 0 1) → 0 ≤ (gF G 3 (i) 5) ∧ (gF G 3 (i) 5) ≤ 600) (hsA : ∀ i, 0 ≤ i → i < (gF G 1 0 1) → 0 ≤ (gF G 3 (i) 2) ∧ (gF G 3 (i) 2) ≤ 1) (hlv : ∀ la i, 0 ≤ la → la < 2 → 0 ≤ i → i < (gA G 94 0 (la)) → 0 ≤ (gA G 93 (la) (i)) ∧ (gA G 93 (la) (i)) < (gF G 1 0 1)) (hdi : ∀ la i j, 0 ≤ la → la < 2 → 0 ≤ i → i < j → j < (gA G 94 0 (la)) → (gA G 93 (la) (i)) ≠ (gA G 93 (la) (j))) (hof : ∀ la, 0 ≤ la → la < 2 → 0 ≤ (gA G 94 0 (la)) ∧ (gA G 94 0 (la)) ≤ 7) (hdd : 0 ≤ (gF G 1 0 2) ∧ (gF G 1 0 2) ≤ 600) (hr : 1 ≤ (gF G 10 0 5) ∧ (gF G 10 0 5) ≤ 99) (hST : stC G = ST) (hWT : wtC G = WT) (h1 : ((gA G 94 0 (0)) = 0 ∨ (gA G 94 0 (1)) = 0) → P (some (vI (-3))) G) (h2 : ¬ ((gA G 94 0 (0)) = 0 ∨ (gA G 94 0 (1)) = 0) → ∀ (g : WQ) (m0 sa0 sb0 m1 sa1 sb1 bs : Int → Int) (t : BS), t = bstF (ltC G ST WT) (pShl 1 (gA G 94 0 (0))) (pShl 1 (gA G 94 0 (1))) (-1, 0, (gA G 95 0 (0)), (gA G 95 0 (1))) → bs 0 = t.2.2.1 → bs 1 = t.2.2.2 → P (some (vI (t.1))) (sA (sA (uA (uA (uA (uA (uA (uA (uA (wghC G g) 105 0 (m0)) 103 0 (sa0)) 103 1 (sb0)) 105 1 (m1)) 103 2 (sa1)) 103 3 (sb1)) 95 0 (bs)) 94 0 0 (0)) 94 0 (1) (0))) : PW l w M_X10_chooseBest (d + 133) 0 [some (vR 10 (0)), none, none, none, none, none, none] [] G P := by
  have hsh0 := shl_in (hof 0 (by decide) (by decide))
  have hsh1 := shl_in (hof 1 (by decide) (by decide))
  refine pw_aload r_10_chooseBest_0 rfl ?_
  refine pw_getR r_10_chooseBest_1 fs_10_3 (by decide) ?_
  refine pw_const r_10_chooseBest_4 ?_
  refine pw_iald r_10_chooseBest_5 sh94 (by omega) (by omega) ?_
  refine pw_if_eq r_10_chooseBest_6 (fun h06 => ?_) (fun h06 => ?_)
  · skip
    refine pw_const r_10_chooseBest_18 ?_
    refine pw_iret r_10_chooseBest_20 rfl (Nat.le_refl _) ⟨rfl, ?_⟩
    exact h1 (by omega)
  · skip
    refine pw_aload r_10_chooseBest_9 rfl ?_
    refine pw_getR r_10_chooseBest_10 fs_10_3 (by decide) ?_
    refine pw_const r_10_chooseBest_13 ?_
    refine pw_iald r_10_chooseBest_14 sh94 (by omega) (by omega) ?_
    refine pw_if_ne r_10_chooseBest_15 (fun h15 => ?_) (fun h15 => ?_)
    · skip
      refine pw_aload r_10_chooseBest_21 rfl ?_
      refine pw_callV (av := []) (st := []) (ls0 := [some (vR 10 (0)), none, none, none, none]) r_10_chooseBest_22 rfl rfl rfl (Nat.le_refl _) ?_
      refine sp_X10_weigh (SD := SD) (FC := FC) (KC := KC) (ST := ST) (WT := WT) (by exact hp) (by exact hsz) (by exact hf) (by exact hpr) (by exact htx) (by exact hTX) (by exact hSD) (by exact hFC) (by exact hKC) (by exact hnA) (by exact hcA) (by exact hsA) (hlv) (hof) (hdd) (hST) (hWT) ?_
      intro g9 hg9 hw9
      refine pw_aload r_10_chooseBest_25 rfl ?_
      refine pw_const r_10_chooseBest_26 ?_
      refine pw_callV (av := [vI (0)]) (st := []) (ls0 := [some (vR 10 (0)), some (vI (0)), none, none]) r_10_chooseBest_27 rfl rfl rfl (Nat.le_refl _) ?_
      refine wset0 (ST := ST) (WT := WT) (by exact hp) (by exact hsz) (by exact hof 0 (by decide) (by decide)) (by exact fun i a b => hlv 0 i (by decide) (by decide) a b) (by exact fun i j a b c => hdi 0 i j (by decide) (by decide) a b c) (by exact hr) (by exact fun i a b => hw9 0 i (by decide) (by decide) a b) (by exact hg9) (by exact (shl_in (hof 0 (by decide) (by decide))).2) ?_
      intro m0 sa0 sb0 hm0
      refine pw_aload r_10_chooseBest_30 rfl ?_
      refine pw_const r_10_chooseBest_31 ?_
      refine pw_callV (av := [vI (1)]) (st := []) (ls0 := [some (vR 10 (0)), some (vI (1)), none, none]) r_10_chooseBest_32 rfl rfl rfl (Nat.le_refl _) ?_
      refine wset1 (ST := ST) (WT := WT) (by exact hp) (by exact hsz) (by exact hof 1 (by decide) (by decide)) (by exact fun i a b => hlv 1 i (by decide) (by decide) a b) (by exact fun i j a b c => hdi 1 i j (by decide) (by decide) a b c) (by exact hr) (by exact fun i a b => hw9 1 i (by decide) (by decide) a b) (by exact hg9) (by exact (shl_in (hof 1 (by decide) (by decide))).2) ?_
      intro m1 sa1 sb1 hm1
      refine pw_const r_10_chooseBest_35 ?_
      refine pw_istore (ls' := [some (vR 10 (0)), some (vI ((-1))), none, none, none, none, none]) r_10_chooseBest_36 rfl rfl ?_
      refine pw_const r_10_chooseBest_37 ?_
      refine pw_istore (ls' := [some (vR 10 (0)), some (vI ((-1))), some (vI (0)), none, none, none, none]) r_10_chooseBest_38 rfl rfl ?_
      refine pw_const r_10_chooseBest_39 ?_
      refine pw_istore (ls' := [some (vR 10 (0)), some (vI ((-1))), some (vI (0)), some (vI (0)), none, none, none]) r_10_chooseBest_40 rfl rfl ?_
      have L41 : ∀ (nF : Nat) (a0 mo le : Int) (bs : Int → Int), (ha0 : 0 ≤ a0 ∧ a0 ≤ (pShl 1 (gA G 94 0 (0)))) → (hs0 : (mo, le, bs 0, bs 1) = iterI (fun x => bstB (ltC G ST WT) (pShl 1 (gA G 94 0 (1))) x) (a0) (-1, 0, (gA G 95 0 (0)), (gA G 95 0 (1)))) → (129 - a0).toNat < nF → PW l w M_X10_chooseBest (d + 133) 41 [some (vR 10 (0)), some (vI (mo)), some (vI (le)), some (vI (a0)), none, none, none] [] (uA (uA (uA (uA (uA (uA (uA (wghC G g9) 105 (0) (m0)) 103 (0) (sa0)) 103 (1) (sb0)) 105 (1) (m1)) 103 (2) (sa1)) 103 (3) (sb1)) 95 (0) (bs)) P := by
        intro nF
        induction nF with
        | zero => intro _ _ _ _ _ _ hM; exact absurd hM (Nat.not_lt_zero _)
        | succ nF ih41 =>
          intro a0 mo le bs ha0 hs0 hM41
          refine pw_aload r_10_chooseBest_41 rfl ?_
          refine pw_const r_10_chooseBest_42 ?_
          refine pw_iload r_10_chooseBest_43 rfl ?_
          refine pw_callV (av := [vI (0), vI (a0)]) (st := []) (ls0 := [some (vR 10 (0)), some (vI (0)), some (vI (a0))]) r_10_chooseBest_44 rfl rfl rfl (Nat.le_refl _) ?_
          refine sp_X10_isSetOf (by decide) ?_
          refine pw_top (b := b2i (0 ≤ a0 ∧ a0 < pShl 1 (gA G 94 (0) (0)))) (by first | rfl | simp (disch := decide) [gF_sF, gF_sA, gF_uA, gF_sD, gA_sF, gA_sA, gA_uA, gA_sD, gD_sF, gD_sA, gD_uA, gD_sD]) ?_
          refine pw_if_eqB r_10_chooseBest_47 (fun h47 => ?_) (fun h47 => ?_)
          · skip
            refine pw_aload r_10_chooseBest_166 rfl ?_
            refine pw_getR r_10_chooseBest_167 fs_10_3 (by decide) ?_
            refine pw_const r_10_chooseBest_170 ?_
            refine pw_const r_10_chooseBest_171 ?_
            refine pw_iast r_10_chooseBest_172 sh94 (by omega) (by omega) ?_
            refine pw_aload r_10_chooseBest_173 rfl ?_
            refine pw_getR r_10_chooseBest_174 fs_10_3 (by decide) ?_
            refine pw_const r_10_chooseBest_177 ?_
            refine pw_const r_10_chooseBest_178 ?_
            refine pw_iast r_10_chooseBest_179 sh94 (by omega) (by omega) ?_
            refine pw_iload r_10_chooseBest_180 rfl ?_
            refine pw_iret r_10_chooseBest_181 rfl (Nat.le_refl _) ⟨rfl, ?_⟩
            have ea : a0 = (pShl 1 (gA G 94 0 (0))) := by omega
            rw [ea] at hs0
            exact h2 (by omega) g9 m0 sa0 sb0 m1 sa1 sb1 bs (mo, le, bs 0, bs 1) hs0 rfl rfl
          · skip
            refine pw_iload r_10_chooseBest_50 rfl ?_
            refine pw_const r_10_chooseBest_51 ?_
            refine pw_icmp_ge r_10_chooseBest_54 (fun h54 => ?_) (fun h54 => ?_)
            · skip
              refine pw_aload r_10_chooseBest_166 rfl ?_
              refine pw_getR r_10_chooseBest_167 fs_10_3 (by decide) ?_
              refine pw_const r_10_chooseBest_170 ?_
              refine pw_const r_10_chooseBest_171 ?_
              refine pw_iast r_10_chooseBest_172 sh94 (by omega) (by omega) ?_
              refine pw_aload r_10_chooseBest_173 rfl ?_
              refine pw_getR r_10_chooseBest_174 fs_10_3 (by decide) ?_
              refine pw_const r_10_chooseBest_177 ?_
              refine pw_const r_10_chooseBest_178 ?_
              refine pw_iast r_10_chooseBest_179 sh94 (by omega) (by omega) ?_
              refine pw_iload r_10_chooseBest_180 rfl ?_
              refine pw_iret r_10_chooseBest_181 rfl (Nat.le_refl _) ⟨rfl, ?_⟩
              have ea : a0 = (pShl 1 (gA G 94 0 (0))) := by omega
              rw [ea] at hs0
              exact h2 (by omega) g9 m0 sa0 sb0 m1 sa1 sb1 bs (mo, le, bs 0, bs 1) hs0 rfl rfl
            · skip
              refine pw_const r_10_chooseBest_57 ?_
              refine pw_istore (ls' := [some (vR 10 (0)), some (vI (mo)), some (vI (le)), some (vI (a0)), some (vI (0)), none, none]) r_10_chooseBest_58 rfl rfl ?_
              have L60 : ∀ (nF : Nat) (b0 mo1 le1 : Int) (bs1 : Int → Int), (hb0 : 0 ≤ b0 ∧ b0 ≤ (pShl 1 (gA G 94 0 (1)))) → (hs1 : (mo1, le1, bs1 0, bs1 1) = iterI (fun y => bstS (ltC G ST WT) (a0) y) (b0) (iterI (fun x => bstB (ltC G ST WT) (pShl 1 (gA G 94 0 (1))) x) (a0) (-1, 0, (gA G 95 0 (0)), (gA G 95 0 (1))))) → (129 - b0).toNat < nF → PW l w M_X10_chooseBest (d + 133) 60 [some (vR 10 (0)), some (vI (mo1)), some (vI (le1)), some (vI (a0)), some (vI (b0)), none, none] [] (uA (uA (uA (uA (uA (uA (uA (wghC G g9) 105 (0) (m0)) 103 (0) (sa0)) 103 (1) (sb0)) 105 (1) (m1)) 103 (2) (sa1)) 103 (3) (sb1)) 95 (0) (bs1)) P := by
                intro nF
                induction nF with
                | zero => intro _ _ _ _ _ _ hM; exact absurd hM (Nat.not_lt_zero _)
                | succ nF ih60 =>
                  intro b0 mo1 le1 bs1 hb0 hs1 hM60
                  have hpa := pc_in (a := a0)
                  have hpb := pc_in (a := b0)
                  refine pw_aload r_10_chooseBest_60 rfl ?_
                  refine pw_const r_10_chooseBest_61 ?_
                  refine pw_iload r_10_chooseBest_62 rfl ?_
                  refine pw_callV (av := [vI (1), vI (b0)]) (st := []) (ls0 := [some (vR 10 (0)), some (vI (1)), some (vI (b0))]) r_10_chooseBest_64 rfl rfl rfl (Nat.le_refl _) ?_
                  refine sp_X10_isSetOf (by first | assumption | exact hl | omega) ?_
                  refine pw_top (b := b2i (0 ≤ b0 ∧ b0 < pShl 1 (gA G 94 (0) (1)))) (by first | rfl | simp (disch := decide) [gF_sF, gF_sA, gF_uA, gF_sD, gA_sF, gA_sA, gA_uA, gA_sD, gD_sF, gD_sA, gD_uA, gD_sD]) ?_
                  refine pw_if_eqB r_10_chooseBest_67 (fun h67 => ?_) (fun h67 => ?_)
                  · skip
                    refine pw_iinc (b := 0) (ls' := [some (vR 10 (0)), some (vI (mo1)), some (vI (le1)), some (vI ((a0 + 1))), some (vI (b0)), none, none]) r_10_chooseBest_160 rfl rfl (by omega) rfl ?_
                    refine pw_goto r_10_chooseBest_163 ?_
                    refine pw_weakL (ls' := [some (vR 10 (0)), some (vI (mo1)), some (vI (le1)), some (vI ((a0 + 1))), none, none, none]) (⟨rfl, ⟨rfl, ⟨rfl, ⟨rfl, trivial⟩⟩⟩⟩) ?_
                    exact ih41 ((a0 + 1)) (mo1) (le1) (bs1) (by first | assumption | omega) (by rw [iter_s _ ha0.1]; exact hs1.trans (congrArg (fun z => iterI (fun y => bstS (ltC G ST WT) a0 y) z (iterI (fun x => bstB (ltC G ST WT) (pShl 1 (gA G 94 0 (1))) x) (a0) (-1, 0, (gA G 95 0 (0)), (gA G 95 0 (1))))) (show b0 = (pShl 1 (gA G 94 0 (1))) by omega))) (by omega)
                  · skip
                    refine pw_iload r_10_chooseBest_70 rfl ?_
                    refine pw_const r_10_chooseBest_72 ?_
                    refine pw_icmp_ge r_10_chooseBest_75 (fun h75 => ?_) (fun h75 => ?_)
                    · skip
                      refine pw_iinc (b := 0) (ls' := [some (vR 10 (0)), some (vI (mo1)), some (vI (le1)), some (vI ((a0 + 1))), some (vI (b0)), none, none]) r_10_chooseBest_160 rfl rfl (by omega) rfl ?_
                      refine pw_goto r_10_chooseBest_163 ?_
                      refine pw_weakL (ls' := [some (vR 10 (0)), some (vI (mo1)), some (vI (le1)), some (vI ((a0 + 1))), none, none, none]) (⟨rfl, ⟨rfl, ⟨rfl, ⟨rfl, trivial⟩⟩⟩⟩) ?_
                      exact ih41 ((a0 + 1)) (mo1) (le1) (bs1) (by first | assumption | omega) (by rw [iter_s _ ha0.1]; exact hs1.trans (congrArg (fun z => iterI (fun y => bstS (ltC G ST WT) a0 y) z (iterI (fun x => bstB (ltC G ST WT) (pShl 1 (gA G 94 0 (1))) x) (a0) (-1, 0, (gA G 95 0 (0)), (gA G 95 0 (1))))) (show b0 = (pShl 1 (gA G 94 0 (1))) by omega))) (by omega)
                    · skip
                      refine pw_iload r_10_chooseBest_78 rfl ?_
                      refine pw_callS (av := [vI (a0)]) (st := []) (ls0 := [some (vI (a0))]) r_10_chooseBest_79 rfl rfl rfl (Nat.le_refl _) ?_
                      refine sp_J_bitCount (by omega) ?_
                      refine pw_iload r_10_chooseBest_82 rfl ?_
                      refine pw_callS (av := [vI (b0)]) (st := [vI (pcF a0)]) (ls0 := [some (vI (b0))]) r_10_chooseBest_84 rfl rfl rfl (Nat.le_refl _) ?_
                      refine sp_J_bitCount (by omega) ?_
                      refine pw_iadd r_10_chooseBest_87 (by omega) ?_
                      refine pw_istore (ls' := [some (vR 10 (0)), some (vI (mo1)), some (vI (le1)), some (vI (a0)), some (vI (b0)), some (vI (((pcF a0) + (pcF b0)))), none]) r_10_chooseBest_88 rfl rfl ?_
                      refine pw_iload r_10_chooseBest_90 rfl ?_
                      refine pw_callS (av := [vI (a0)]) (st := []) (ls0 := [some (vI (a0))]) r_10_chooseBest_91 rfl rfl rfl (Nat.le_refl _) ?_
                      refine sp_J_bitCount (by omega) ?_
                      refine pw_iload r_10_chooseBest_94 rfl ?_
                      refine pw_callS (av := [vI (b0)]) (st := [vI (pcF a0)]) (ls0 := [some (vI (b0))]) r_10_chooseBest_96 rfl rfl rfl (Nat.le_refl _) ?_
                      refine sp_J_bitCount (by omega) ?_
                      refine pw_isub r_10_chooseBest_99 (by omega) ?_
                      refine pw_mabs r_10_chooseBest_100 rfl (Nat.le_of_ble_eq_true rfl) (Nat.le_refl _) ?_
                      refine pw_istore (ls' := [some (vR 10 (0)), some (vI (mo1)), some (vI (le1)), some (vI (a0)), some (vI (b0)), some (vI (((pcF a0) + (pcF b0)))), some (vI (absI ((pcF a0) - (pcF b0))))]) r_10_chooseBest_103 rfl rfl ?_
                      refine pw_iload r_10_chooseBest_105 rfl ?_
                      refine pw_iload r_10_chooseBest_107 rfl ?_
                      refine pw_icmp_gt r_10_chooseBest_108 (fun h108 => ?_) (fun h108 => ?_)
                      · skip
                        refine pw_aload r_10_chooseBest_123 rfl ?_
                        refine pw_iload r_10_chooseBest_124 rfl ?_
                        refine pw_iload r_10_chooseBest_125 rfl ?_
                        refine pw_callV (av := [vI (a0), vI (b0)]) (st := []) (ls0 := [some (vR 10 (0)), some (vI (a0)), some (vI (b0))]) r_10_chooseBest_127 rfl rfl rfl (Nat.le_refl _) ?_
                        refine sp_X10_isLet (by omega) (by omega) ?_
                        refine pw_top (b := b2i (((m0) (a0)) = 1 ∧ ((m1) (b0)) = 1 ∧ ((sa0) (a0)) ≤ ((sa1) (b0)) ∧ ((sb1) (b0)) ≤ ((sb0) (a0)))) (by first | rfl | simp (disch := decide) [gF_sF, gF_sA, gF_uA, gF_sD, gA_sF, gA_sA, gA_uA, gA_sD, gD_sF, gD_sA, gD_uA, gD_sD]) ?_
                        refine pw_top (b := b2i (ltC G ST WT a0 b0)) (b2i_iff (let_iff (hm0 a0 ha0.1 (by show a0 < (pShl 1 (gA G 94 0 (0))); omega)).1 (hm1 b0 hb0.1 (by show b0 < (pShl 1 (gA G 94 0 (1))); omega)).1 (fun z => z.1) (fun z => z.1) (hm0 a0 ha0.1 (by show a0 < (pShl 1 (gA G 94 0 (0))); omega)).2 (hm1 b0 hb0.1 (by show b0 < (pShl 1 (gA G 94 0 (1))); omega)).2)) ?_
                        refine pw_if_eqB r_10_chooseBest_130 (fun h130 => ?_) (fun h130 => ?_)
                        · skip
                          refine pw_iinc (b := 0) (ls' := [some (vR 10 (0)), some (vI (mo1)), some (vI (le1)), some (vI (a0)), some (vI ((b0 + 1))), some (vI (((pcF a0) + (pcF b0)))), some (vI (absI ((pcF a0) - (pcF b0))))]) r_10_chooseBest_154 rfl rfl (by omega) rfl ?_
                          refine pw_goto r_10_chooseBest_157 ?_
                          refine pw_weakL (ls' := [some (vR 10 (0)), some (vI (mo1)), some (vI (le1)), some (vI (a0)), some (vI ((b0 + 1))), none, none]) (⟨rfl, ⟨rfl, ⟨rfl, ⟨rfl, ⟨rfl, trivial⟩⟩⟩⟩⟩) ?_
                          exact ih60 ((b0 + 1)) (mo1) (le1) (bs1) (by first | assumption | omega) (by rw [iter_s _ hb0.1, ← hs1]; first | (rw [bst_f (fun z => h130 z.2)]; done) | (rw [bst_f (fun z => by have y : mo1 < _ ∨ _ ∧ _ < le1 := z.1; omega)]; done)) (by omega)
                        · skip
                          refine pw_iload r_10_chooseBest_133 rfl ?_
                          refine pw_istore (ls' := [some (vR 10 (0)), some (vI (((pcF a0) + (pcF b0)))), some (vI (le1)), some (vI (a0)), some (vI (b0)), some (vI (((pcF a0) + (pcF b0)))), some (vI (absI ((pcF a0) - (pcF b0))))]) r_10_chooseBest_135 rfl rfl ?_
                          refine pw_iload r_10_chooseBest_136 rfl ?_
                          refine pw_istore (ls' := [some (vR 10 (0)), some (vI (((pcF a0) + (pcF b0)))), some (vI (absI ((pcF a0) - (pcF b0)))), some (vI (a0)), some (vI (b0)), some (vI (((pcF a0) + (pcF b0)))), some (vI (absI ((pcF a0) - (pcF b0))))]) r_10_chooseBest_138 rfl rfl ?_
                          refine pw_aload r_10_chooseBest_139 rfl ?_
                          refine pw_getR r_10_chooseBest_140 fs_10_4 (by decide) ?_
                          refine pw_const r_10_chooseBest_143 ?_
                          refine pw_iload r_10_chooseBest_144 rfl ?_
                          refine pw_iast r_10_chooseBest_145 sh95 (by omega) (by omega) ?_
                          refine pw_aload r_10_chooseBest_146 rfl ?_
                          refine pw_getR r_10_chooseBest_147 fs_10_4 (by decide) ?_
                          refine pw_const r_10_chooseBest_150 ?_
                          refine pw_iload r_10_chooseBest_151 rfl ?_
                          refine pw_iast r_10_chooseBest_153 sh95 (by omega) (by omega) ?_
                          refine pw_iinc (b := 0) (ls' := [some (vR 10 (0)), some (vI (((pcF a0) + (pcF b0)))), some (vI (absI ((pcF a0) - (pcF b0)))), some (vI (a0)), some (vI ((b0 + 1))), some (vI (((pcF a0) + (pcF b0)))), some (vI (absI ((pcF a0) - (pcF b0))))]) r_10_chooseBest_154 rfl rfl (by omega) rfl ?_
                          refine pw_goto r_10_chooseBest_157 ?_
                          refine pw_weakL (ls' := [some (vR 10 (0)), some (vI (((pcF a0) + (pcF b0)))), some (vI (absI ((pcF a0) - (pcF b0)))), some (vI (a0)), some (vI ((b0 + 1))), none, none]) (⟨rfl, ⟨rfl, ⟨rfl, ⟨rfl, ⟨rfl, trivial⟩⟩⟩⟩⟩) ?_
                          refine pw_eqG (G' := uA (uA (uA (uA (uA (uA (uA (wghC G g9) 105 (0) (m0)) 103 (0) (sa0)) 103 (1) (sb0)) 105 (1) (m1)) 103 (2) (sa1)) 103 (3) (sb1)) 95 (0) ((upA (upA bs1 0 a0) 1 b0))) (by rw [sA_uA, sA_uA]) ?_
                          exact ih60 ((b0 + 1)) (((pcF a0) + (pcF b0))) (absI ((pcF a0) - (pcF b0))) ((upA (upA bs1 0 a0) 1 b0)) (by first | assumption | omega) (by rw [iter_s _ hb0.1, ← hs1]; rw [bst_t ⟨by show mo1 < _ ∨ _ ∧ _ < le1; omega, h130⟩]; rfl) (by omega)
                      · skip
                        refine pw_iload r_10_chooseBest_111 rfl ?_
                        refine pw_iload r_10_chooseBest_113 rfl ?_
                        refine pw_icmp_ne r_10_chooseBest_114 (fun h114 => ?_) (fun h114 => ?_)
                        · skip
                          refine pw_iinc (b := 0) (ls' := [some (vR 10 (0)), some (vI (mo1)), some (vI (le1)), some (vI (a0)), some (vI ((b0 + 1))), some (vI (((pcF a0) + (pcF b0)))), some (vI (absI ((pcF a0) - (pcF b0))))]) r_10_chooseBest_154 rfl rfl (by omega) rfl ?_
                          refine pw_goto r_10_chooseBest_157 ?_
                          refine pw_weakL (ls' := [some (vR 10 (0)), some (vI (mo1)), some (vI (le1)), some (vI (a0)), some (vI ((b0 + 1))), none, none]) (⟨rfl, ⟨rfl, ⟨rfl, ⟨rfl, ⟨rfl, trivial⟩⟩⟩⟩⟩) ?_
                          exact ih60 ((b0 + 1)) (mo1) (le1) (bs1) (by first | assumption | omega) (by rw [iter_s _ hb0.1, ← hs1]; first | (rw [bst_f (fun z => h130 z.2)]; done) | (rw [bst_f (fun z => by have y : mo1 < _ ∨ _ ∧ _ < le1 := z.1; omega)]; done)) (by omega)
                        · skip
                          refine pw_iload r_10_chooseBest_117 rfl ?_
                          refine pw_iload r_10_chooseBest_119 rfl ?_
                          refine pw_icmp_ge r_10_chooseBest_120 (fun h120 => ?_) (fun h120 => ?_)
                          · skip
                            refine pw_iinc (b := 0) (ls' := [some (vR 10 (0)), some (vI (mo1)), some (vI (le1)), some (vI (a0)), some (vI ((b0 + 1))), some (vI (((pcF a0) + (pcF b0)))), some (vI (absI ((pcF a0) - (pcF b0))))]) r_10_chooseBest_154 rfl rfl (by omega) rfl ?_
                            refine pw_goto r_10_chooseBest_157 ?_
                            refine pw_weakL (ls' := [some (vR 10 (0)), some (vI (mo1)), some (vI (le1)), some (vI (a0)), some (vI ((b0 + 1))), none, none]) (⟨rfl, ⟨rfl, ⟨rfl, ⟨rfl, ⟨rfl, trivial⟩⟩⟩⟩⟩) ?_
                            exact ih60 ((b0 + 1)) (mo1) (le1) (bs1) (by first | assumption | omega) (by rw [iter_s _ hb0.1, ← hs1]; first | (rw [bst_f (fun z => h130 z.2)]; done) | (rw [bst_f (fun z => by have y : mo1 < _ ∨ _ ∧ _ < le1 := z.1; omega)]; done)) (by omega)
                          · skip
                            refine pw_aload r_10_chooseBest_123 rfl ?_
                            refine pw_iload r_10_chooseBest_124 rfl ?_
                            refine pw_iload r_10_chooseBest_125 rfl ?_
                            refine pw_callV (av := [vI (a0), vI (b0)]) (st := []) (ls0 := [some (vR 10 (0)), some (vI (a0)), some (vI (b0))]) r_10_chooseBest_127 rfl rfl rfl (Nat.le_refl _) ?_
                            refine sp_X10_isLet (by omega) (by omega) ?_
                            refine pw_top (b := b2i (((m0) (a0)) = 1 ∧ ((m1) (b0)) = 1 ∧ ((sa0) (a0)) ≤ ((sa1) (b0)) ∧ ((sb1) (b0)) ≤ ((sb0) (a0)))) (by first | rfl | simp (disch := decide) [gF_sF, gF_sA, gF_uA, gF_sD, gA_sF, gA_sA, gA_uA, gA_sD, gD_sF, gD_sA, gD_uA, gD_sD]) ?_
                            refine pw_top (b := b2i (ltC G ST WT a0 b0)) (b2i_iff (let_iff (hm0 a0 ha0.1 (by show a0 < (pShl 1 (gA G 94 0 (0))); omega)).1 (hm1 b0 hb0.1 (by show b0 < (pShl 1 (gA G 94 0 (1))); omega)).1 (fun z => z.1) (fun z => z.1) (hm0 a0 ha0.1 (by show a0 < (pShl 1 (gA G 94 0 (0))); omega)).2 (hm1 b0 hb0.1 (by show b0 < (pShl 1 (gA G 94 0 (1))); omega)).2)) ?_
                            refine pw_if_eqB r_10_chooseBest_130 (fun h130 => ?_) (fun h130 => ?_)
                            · skip
                              refine pw_iinc (b := 0) (ls' := [some (vR 10 (0)), some (vI (mo1)), some (vI (le1)), some (vI (a0)), some (vI ((b0 + 1))), some (vI (((pcF a0) + (pcF b0)))), some (vI (absI ((pcF a0) - (pcF b0))))]) r_10_chooseBest_154 rfl rfl (by omega) rfl ?_
                              refine pw_goto r_10_chooseBest_157 ?_
                              refine pw_weakL (ls' := [some (vR 10 (0)), some (vI (mo1)), some (vI (le1)), some (vI (a0)), some (vI ((b0 + 1))), none, none]) (⟨rfl, ⟨rfl, ⟨rfl, ⟨rfl, ⟨rfl, trivial⟩⟩⟩⟩⟩) ?_
                              exact ih60 ((b0 + 1)) (mo1) (le1) (bs1) (by first | assumption | omega) (by rw [iter_s _ hb0.1, ← hs1]; first | (rw [bst_f (fun z => h130 z.2)]; done) | (rw [bst_f (fun z => by have y : mo1 < _ ∨ _ ∧ _ < le1 := z.1; omega)]; done)) (by omega)
                            · skip
                              refine pw_iload r_10_chooseBest_133 rfl ?_
                              refine pw_istore (ls' := [some (vR 10 (0)), some (vI (((pcF a0) + (pcF b0)))), some (vI (le1)), some (vI (a0)), some (vI (b0)), some (vI (((pcF a0) + (pcF b0)))), some (vI (absI ((pcF a0) - (pcF b0))))]) r_10_chooseBest_135 rfl rfl ?_
                              refine pw_iload r_10_chooseBest_136 rfl ?_
                              refine pw_istore (ls' := [some (vR 10 (0)), some (vI (((pcF a0) + (pcF b0)))), some (vI (absI ((pcF a0) - (pcF b0)))), some (vI (a0)), some (vI (b0)), some (vI (((pcF a0) + (pcF b0)))), some (vI (absI ((pcF a0) - (pcF b0))))]) r_10_chooseBest_138 rfl rfl ?_
                              refine pw_aload r_10_chooseBest_139 rfl ?_
                              refine pw_getR r_10_chooseBest_140 fs_10_4 (by decide) ?_
                              refine pw_const r_10_chooseBest_143 ?_
                              refine pw_iload r_10_chooseBest_144 rfl ?_
                              refine pw_iast r_10_chooseBest_145 sh95 (by omega) (by omega) ?_
                              refine pw_aload r_10_chooseBest_146 rfl ?_
                              refine pw_getR r_10_chooseBest_147 fs_10_4 (by decide) ?_
                              refine pw_const r_10_chooseBest_150 ?_
                              refine pw_iload r_10_chooseBest_151 rfl ?_
                              refine pw_iast r_10_chooseBest_153 sh95 (by omega) (by omega) ?_
                              refine pw_iinc (b := 0) (ls' := [some (vR 10 (0)), some (vI (((pcF a0) + (pcF b0)))), some (vI (absI ((pcF a0) - (pcF b0)))), some (vI (a0)), some (vI ((b0 + 1))), some (vI (((pcF a0) + (pcF b0)))), some (vI (absI ((pcF a0) - (pcF b0))))]) r_10_chooseBest_154 rfl rfl (by omega) rfl ?_
                              refine pw_goto r_10_chooseBest_157 ?_
                              refine pw_weakL (ls' := [some (vR 10 (0)), some (vI (((pcF a0) + (pcF b0)))), some (vI (absI ((pcF a0) - (pcF b0)))), some (vI (a0)), some (vI ((b0 + 1))), none, none]) (⟨rfl, ⟨rfl, ⟨rfl, ⟨rfl, ⟨rfl, trivial⟩⟩⟩⟩⟩) ?_
                              refine pw_eqG (G' := uA (uA (uA (uA (uA (uA (uA (wghC G g9) 105 (0) (m0)) 103 (0) (sa0)) 103 (1) (sb0)) 105 (1) (m1)) 103 (2) (sa1)) 103 (3) (sb1)) 95 (0) ((upA (upA bs1 0 a0) 1 b0))) (by rw [sA_uA, sA_uA]) ?_
                              exact ih60 ((b0 + 1)) (((pcF a0) + (pcF b0))) (absI ((pcF a0) - (pcF b0))) ((upA (upA bs1 0 a0) 1 b0)) (by first | assumption | omega) (by rw [iter_s _ hb0.1, ← hs1]; rw [bst_t ⟨by show mo1 < _ ∨ _ ∧ _ < le1; omega, h130⟩]; rfl) (by omega)
              exact L60 _ (0) (mo) (le) (bs) (by first | assumption | omega) (hs0) (Nat.lt_succ_self _)
      refine pw_eqG (G' := uA (uA (uA (uA (uA (uA (uA (wghC G g9) 105 (0) (m0)) 103 (0) (sa0)) 103 (1) (sb0)) 105 (1) (m1)) 103 (2) (sa1)) 103 (3) (sb1)) 95 (0) ((gA G 95 0))) ((uA_own _ 95 0).symm) ?_
      exact L41 _ (0) ((-1)) (0) ((gA G 95 0)) (by first | assumption | omega) (rfl) (Nat.lt_succ_self _)
    · skip
      refine pw_const r_10_chooseBest_18 ?_
      refine pw_iret r_10_chooseBest_20 rfl (Nat.le_refl _) ⟨rfl, ?_⟩
      exact h1 (by omega)
set_option maxRecDepth 10000 in
theorem sp_X11_best {l : Launch} {w : Wo} {d : Nat} {G : PH} {P : Option PV → PH → Prop} {ST : Int → Int → Int → Prop} {WT : Int → Int → Int → Int → Int} {SD : Int → Int → Int → Int → Int → Int × Int} {FC : Int → Int → Int → Int} {KC : Int → Int → Int → Int → Int} (hp : ∀ i, 0 ≤ i → i < (gF G 1 0 1) → gD G 30 0 i = some (3, i)) (hsz : 0 ≤ (gF G 1 0 1) ∧ (gF G 1 0 1) ≤ 150) (hf : 0 ≤ (gF G 9 0 0) ∧ (gF G 9 0 0) ≤ 300) (hpr : 0 ≤ (gF G 9 0 2) ∧ (gF G 9 0 2) ≤ 40) (htx : 0 ≤ (gF G 8 0 0) ∧ (gF G 8 0 0) ≤ 20) (hTX : txC G) (hSD : sdC G = SD) (hFC : fcC G = FC) (hKC : kC G = KC) (hnA : ∀ i, 0 ≤ i → i < (gF G 1 0 1) → (gF G 3 (i) 0) = i) (hcA : ∀ i, 0 ≤ i → i < (gF G 1 0 1) → 0 ≤ (gF G 3 (i) 5) ∧ (gF G 3 (i) 5) ≤ 600) (hsA : ∀ i, 0 ≤ i → i < (gF G 1 0 1) → 0 ≤ (gF G 3 (i) 2) ∧ (gF G 3 (i) 2) ≤ 1) (hlv : ∀ la i, 0 ≤ la → la < 2 → 0 ≤ i → i < (gA G 94 0 (la)) → 0 ≤ (gA G 93 (la) (i)) ∧ (gA G 93 (la) (i)) < (gF G 1 0 1)) (hdi : ∀ la i j, 0 ≤ la → la < 2 → 0 ≤ i → i < j → j < (gA G 94 0 (la)) → (gA G 93 (la) (i)) ≠ (gA G 93 (la) (j))) (hof : ∀ la, 0 ≤ la → la < 2 → 0 ≤ (gA G 94 0 (la)) ∧ (gA G 94 0 (la)) ≤ 7) (hdd : 0 ≤ (gF G 1 0 2) ∧ (gF G 1 0 2) ≤ 600) (hr : 1 ≤ (gF G 10 0 5) ∧ (gF G 10 0 5) ≤ 99) (hST : stC G = ST) (hWT : wtC G = WT) (h1 : ((gA G 94 0 (0)) = 0 ∨ (gA G 94 0 (1)) = 0) → P (some (vI (-3))) G) (h2 : ¬ ((gA G 94 0 (0)) = 0 ∨ (gA G 94 0 (1)) = 0) → ∀ (g : WQ) (m0 sa0 sb0 m1 sa1 sb1 bs : Int → Int) (t : BS), t = bstF (ltC G ST WT) (pShl 1 (gA G 94 0 (0))) (pShl 1 (gA G 94 0 (1))) (-1, 0, (gA G 95 0 (0)), (gA G 95 0 (1))) → bs 0 = t.2.2.1 → bs 1 = t.2.2.2 → P (some (vI (t.1))) (sA (sA (uA (uA (uA (uA (uA (uA (uA (wghC G g) 105 0 (m0)) 103 0 (sa0)) 103 1 (sb0)) 105 1 (m1)) 103 2 (sa1)) 103 3 (sb1)) 95 0 (bs)) 94 0 0 (0)) 94 0 (1) (0))) : PW l w M_X11_best (d + 134) 0 [some (vR 11 (0))] [] G P := by
  refine pw_aload r_11_best_0 rfl ?_
  refine pw_getR r_11_best_1 fs_11_5 (by decide) ?_
  refine pw_callV (av := []) (st := []) (ls0 := [some (vR 10 (0)), none, none, none, none, none, none]) r_11_best_4 rfl rfl rfl (Nat.le_refl _) ?_
  refine sp_X10_chooseBest (by first | assumption | exact hp | omega) (by first | assumption | exact hsz | omega) (by first | assumption | exact hf | omega) (by first | assumption | exact hpr | omega) (by first | assumption | exact htx | omega) (by first | assumption | exact hTX | omega) (by first | assumption | exact hSD | omega) (by first | assumption | exact hFC | omega) (by first | assumption | exact hKC | omega) (by first | assumption | exact hnA | omega) (by first | assumption | exact hcA | omega) (by first | assumption | exact hsA | omega) (by first | assumption | exact hlv | omega) (by first | assumption | exact hdi | omega) (by first | assumption | exact hof | omega) (by first | assumption | exact hdd | omega) (by first | assumption | exact hr | omega) (by first | assumption | exact hST | omega) (by first | assumption | exact hWT | omega) ?_ ?_
  · skip
    intro q1
    refine pw_iret r_11_best_7 rfl (Nat.le_refl _) ⟨rfl, ?_⟩
    exact h1 q1
  · skip
    intro q1 g m0 sa0 sb0 m1 sa1 sb1 bs t q2 q3 q4
    refine pw_iret r_11_best_7 rfl (Nat.le_refl _) ⟨rfl, ?_⟩
    exact h2 q1 g m0 sa0 sb0 m1 sa1 sb1 bs t q2 q3 q4

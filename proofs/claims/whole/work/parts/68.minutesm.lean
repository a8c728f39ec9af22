section MF
variable {wa wb : Int → Int} {TA TB h : Int} {V : Int → Int → Int} {a b : Int}
def xOr (c v k x x1 a1 : Int) : Prop := (c % 2 = 1 ∧ x1 = v ∧ a1 = k + 1) ∨ (c % 2 = 0 ∧ x1 = x ∧ a1 = k)
def yOr (c v k x x1 a1 : Int) : Prop := (2 ≤ c ∧ x1 = v ∧ a1 = k + 1) ∨ (c < 2 ∧ x1 = x ∧ a1 = k)
def neP (a b TA TB : Int) : Prop := ¬ (a = TA ∧ b = TB)
theorem ex_x1 {c k v x : Int} (h : 0 ≤ c) : ∃ x1 a1 : Int, xOr c v k x x1 a1 := by
  by_cases e : c % 2 = 1
  · exact ⟨v, k + 1, Or.inl ⟨e, rfl, rfl⟩⟩
  · exact ⟨x, k, Or.inr ⟨by omega, rfl, rfl⟩⟩
theorem ex_y1 {c k v x : Int} : ∃ x1 a1 : Int, yOr c v k x x1 a1 := by
  by_cases e : 2 ≤ c
  · exact ⟨v, k + 1, Or.inl ⟨e, rfl, rfl⟩⟩
  · exact ⟨x, k, Or.inr ⟨by omega, rfl, rfl⟩⟩
theorem dn_in (hB : BEL wa wb TA TB h V) (ha : 0 ≤ a ∧ a ≤ TA) (hb : 0 ≤ b ∧ b ≤ TB) (hT : TA ≤ 90 ∧ TB ≤ 90) : (0 ≤ dn (V a b) ∧ dn (V a b) ≤ 100000) ∧ ((V a b = 1000000000 ∧ dn (V a b) = 100000) ∨ ((0 ≤ V a b ∧ V a b ≤ 180) ∧ dn (V a b) = V a b)) := by
  have h1 := (hB a b ha.1 ha.2 hb.1 hb.2).2
  unfold belL at h1
  have h2 := dn_or (v := V a b)
  omega
theorem bel_e (hB : BEL wa wb TA TB h V) (hT : 0 ≤ TA ∧ 0 ≤ TB) : V TA TB = 0 := by
  rcases (hB TA TB hT.1 (Int.le_refl _) hT.2 (Int.le_refl _)).1 with z | z
  · exact z.2.2
  · exact absurd ⟨rfl, rfl⟩ z.1
theorem st_0 : stW wa wb 0 0 = 0 := rfl
theorem mi_neg {n0 n1 : Int} {f : Int → Int} (hA : RWy n0 wa TA) (hB : RWy n1 wb TB) (hn : n0 ≤ 10 ∧ n1 ≤ 10) (hf : ∀ j, 0 ≤ j → j < 12100 → f j = -1) : MIF wa wb TA TB V f := by
  intro x y x0 x1 y0 y1
  have := st_in hA hB hn ⟨x0, x1⟩ ⟨y0, y1⟩
  rw [hf _ this.1 this.2]
  exact Or.inl (by decide)
def dnQ (p q : Prop) : Prop := p ↔ q
theorem dn_step {v n t k : Int} (h1 : (0 ≤ v ∧ v ≤ 180) ∧ dn v = v) (h2 : (n = 1000000000 ∧ dn n = 100000) ∨ ((0 ≤ n ∧ n ≤ 180) ∧ dn n = n)) (h3 : v = t - k) (h4 : True) : (1 + dn n = dn v ↔ n = v - 1) := by omega
def bkI (wa wb : Int → Int) (n0 n1 TA TB h a b c x1 a1 y1 b1 : Int) : Prop := (((c % 2 = 1 → plX wa a = 0 ∧ plK wa a < n0) ∧ (2 ≤ c → plX wb b = 0 ∧ plK wb b < n1) ∧ ¬ (x1 = 0 ∧ y1 = 0) ∧ -h ≤ a1 - ps (tk x1) - b1 + ps (tk y1) ∧ a1 - ps (tk x1) - b1 + ps (tk y1) ≤ h) ↔ okH wa wb TA TB h a b c) ∧ (okH wa wb TA TB h a b c → 1100 * a1 + 110 * tk x1 + 10 * b1 + tk y1 = stW wa wb (a + sgA c (plX wa a)) (b + sgB c (plX wb b)))
theorem bok_2 {va vb : Int → Int} {n0 n1 c x1 a1 y1 b1 : Int} (hA : RWy n0 wa TA) (hB : RWy n1 wb TB) (ha : 0 ≤ a ∧ a ≤ TA) (hb : 0 ≤ b ∧ b ≤ TB) (hva : ∀ i, 0 ≤ i → i < n0 → va i = wa i) (hvb : ∀ i, 0 ≤ i → i < n1 → vb i = wb i) (hx1 : xOr c (va (plK wa a)) (plK wa a) (plX wa a) x1 a1) (hy1 : yOr c (vb (plK wb b)) (plK wb b) (plX wb b) y1 b1) : bkI wa wb n0 n1 TA TB h a b c x1 a1 y1 b1 := bok_iff hA hB ha hb hva hvb hx1 hy1
theorem sg_of {c : Int} (ho : okH wa wb TA TB h a b c) : (0 ≤ sgA c (plX wa a) ∧ sgA c (plX wa a) ≤ 1) ∧ (0 ≤ sgB c (plX wb b) ∧ sgB c (plX wb b) ≤ 1) ∧ 1 ≤ sgA c (plX wa a) + sgB c (plX wb b) ∧ a + sgA c (plX wa a) ≤ TA ∧ b + sgB c (plX wb b) ≤ TB := by
  have h1 := sgA_or (c := c) (x := plX wa a)
  have h2 := sgB_or (c := c) (y := plX wb b)
  have h3 := ho.2.2.1
  have h4 := ho.2.2.2.2.2.1
  have h5 := ho.2.2.2.2.2.2.1
  refine ⟨by omega, by omega, by omega, h4, h5⟩
theorem ch_in {i : Int} (hi : 0 ≤ i ∧ i ≤ 3) : 0 ≤ chF i ∧ chF i < 4 := by
  have := ch_or (i := i)
  omega
theorem ch_eq {i r : Int} (hr : (i = 0 ∧ r = 3) ∨ (i = 3 ∧ r = 0) ∨ ((i ≠ 0 ∧ i ≠ 3) ∧ r = i)) : r = chF i := by
  have := ch_or (i := i)
  omega
end MF

theorem wd_f12_195 : Cond.fieldLink "NameRollsModel" 195 "NameRollsModel" "memo" "[I" ∈ UW := UW7_at 152 (by decide +kernel) rfl
theorem wd_m12_477 : Cond.methodLink "NameRollsModel" 477 M_X12_behind.1 ∈ UW := UW10_at 30 (by decide +kernel) rfl
theorem wd_s12_behind : Cond.selects M_X12_behind.1.cls M_X12_behind.1 M_X12_behind.1 ∈ UW := UWp_at 99 (by decide +kernel) rfl
theorem wd_m12_480 : Cond.methodLink "NameRollsModel" 480 M_X12_minutesFrom.1 ∈ UW := UW10_at 26 (by decide +kernel) rfl
theorem wd_s12_minutesFrom : Cond.selects M_X12_minutesFrom.1.cls M_X12_minutesFrom.1 M_X12_minutesFrom.1 ∈ UW := UWp_at 98 (by decide +kernel) rfl
theorem r_12_minutesFrom_0 : RA M_X12_minutesFrom 0 0 1 := Or.inl ⟨0, by decide +kernel, rfl, rfl⟩
theorem r_12_minutesFrom_1 : RG M_X12_minutesFrom 1 12 84 4 := ⟨195, _, by decide +kernel, rfl, by decide, wd_f12_195, rfl, rfl⟩
theorem r_12_minutesFrom_4 : RL M_X12_minutesFrom 4 1 5 := Or.inl ⟨1, by decide +kernel, rfl, rfl⟩
theorem r_12_minutesFrom_5 : RW M_X12_minutesFrom 5 .iaload 6 1 := ⟨by decide +kernel, rfl⟩
theorem r_12_minutesFrom_6 : RB M_X12_minutesFrom 6 (.ifCond .lt) 16 9 := ⟨10, by decide +kernel, rfl, rfl⟩
theorem r_12_minutesFrom_16 : RC M_X12_minutesFrom 16 100000 19 := ⟨⟨by decide, by decide⟩, Or.inr (Or.inr (Or.inr (Or.inr ⟨260, by decide +kernel, wd_c12_260, rfl⟩)))⟩
theorem r_12_minutesFrom_19 : RS M_X12_minutesFrom 19 2 20 := ⟨by decide, Or.inl ⟨2, by decide +kernel, rfl, rfl⟩⟩
theorem r_12_minutesFrom_20 : RL M_X12_minutesFrom 20 1 21 := Or.inl ⟨1, by decide +kernel, rfl, rfl⟩
theorem r_12_minutesFrom_21 : RA M_X12_minutesFrom 21 0 22 := Or.inl ⟨0, by decide +kernel, rfl, rfl⟩
theorem r_12_minutesFrom_22 : RG M_X12_minutesFrom 22 12 83 25 := ⟨192, _, by decide +kernel, rfl, by decide, wd_f12_192, rfl, rfl⟩
theorem r_12_minutesFrom_25 : RC M_X12_minutesFrom 25 0 26 := ⟨⟨by decide, by decide⟩, Or.inl ⟨by decide +kernel, rfl⟩⟩
theorem r_12_minutesFrom_26 : RW M_X12_minutesFrom 26 .iaload 27 1 := ⟨by decide +kernel, rfl⟩
theorem r_12_minutesFrom_27 : RC M_X12_minutesFrom 27 1100 30 := ⟨⟨by decide, by decide⟩, Or.inr (Or.inr (Or.inl ⟨by decide +kernel, by decide, rfl⟩))⟩
theorem r_12_minutesFrom_30 : RW M_X12_minutesFrom 30 .imul 31 1 := ⟨by decide +kernel, rfl⟩
theorem r_12_minutesFrom_31 : RA M_X12_minutesFrom 31 0 32 := Or.inl ⟨0, by decide +kernel, rfl, rfl⟩
theorem r_12_minutesFrom_32 : RG M_X12_minutesFrom 32 12 83 35 := ⟨192, _, by decide +kernel, rfl, by decide, wd_f12_192, rfl, rfl⟩
theorem r_12_minutesFrom_35 : RC M_X12_minutesFrom 35 1 36 := ⟨⟨by decide, by decide⟩, Or.inl ⟨by decide +kernel, rfl⟩⟩
theorem r_12_minutesFrom_36 : RW M_X12_minutesFrom 36 .iaload 37 1 := ⟨by decide +kernel, rfl⟩
theorem r_12_minutesFrom_37 : RC M_X12_minutesFrom 37 10 39 := ⟨⟨by decide, by decide⟩, Or.inr (Or.inl ⟨by decide +kernel, by decide, rfl⟩)⟩
theorem r_12_minutesFrom_39 : RW M_X12_minutesFrom 39 .imul 40 1 := ⟨by decide +kernel, rfl⟩
theorem r_12_minutesFrom_40 : RW M_X12_minutesFrom 40 .iadd 41 1 := ⟨by decide +kernel, rfl⟩
theorem r_12_minutesFrom_41 : RB M_X12_minutesFrom 41 (.if_icmp .ne) 49 44 := ⟨8, by decide +kernel, rfl, rfl⟩
theorem r_12_minutesFrom_49 : RC M_X12_minutesFrom 49 0 50 := ⟨⟨by decide, by decide⟩, Or.inl ⟨by decide +kernel, rfl⟩⟩
theorem r_12_minutesFrom_50 : RS M_X12_minutesFrom 50 3 51 := ⟨by decide, Or.inl ⟨3, by decide +kernel, rfl, rfl⟩⟩
theorem r_12_minutesFrom_51 : RL M_X12_minutesFrom 51 3 52 := Or.inl ⟨3, by decide +kernel, rfl, rfl⟩
theorem r_12_minutesFrom_52 : RC M_X12_minutesFrom 52 4 53 := ⟨⟨by decide, by decide⟩, Or.inl ⟨by decide +kernel, rfl⟩⟩
theorem r_12_minutesFrom_53 : RB M_X12_minutesFrom 53 (.if_icmp .ge) 104 56 := ⟨51, by decide +kernel, rfl, rfl⟩
theorem r_12_minutesFrom_104 : RA M_X12_minutesFrom 104 0 105 := Or.inl ⟨0, by decide +kernel, rfl, rfl⟩
theorem r_12_minutesFrom_105 : RG M_X12_minutesFrom 105 12 84 108 := ⟨195, _, by decide +kernel, rfl, by decide, wd_f12_195, rfl, rfl⟩
theorem r_12_minutesFrom_108 : RL M_X12_minutesFrom 108 1 109 := Or.inl ⟨1, by decide +kernel, rfl, rfl⟩
theorem r_12_minutesFrom_109 : RL M_X12_minutesFrom 109 2 110 := Or.inl ⟨2, by decide +kernel, rfl, rfl⟩
theorem r_12_minutesFrom_110 : RW M_X12_minutesFrom 110 .iastore 111 1 := ⟨by decide +kernel, rfl⟩
theorem r_12_minutesFrom_111 : RL M_X12_minutesFrom 111 2 112 := Or.inl ⟨2, by decide +kernel, rfl, rfl⟩
theorem r_12_minutesFrom_112 : RW M_X12_minutesFrom 112 .ireturn 113 1 := ⟨by decide +kernel, rfl⟩
theorem r_12_minutesFrom_56 : RA M_X12_minutesFrom 56 0 57 := Or.inl ⟨0, by decide +kernel, rfl, rfl⟩
theorem r_12_minutesFrom_57 : RL M_X12_minutesFrom 57 1 58 := Or.inl ⟨1, by decide +kernel, rfl, rfl⟩
theorem r_12_minutesFrom_58 : RL M_X12_minutesFrom 58 3 59 := Or.inl ⟨3, by decide +kernel, rfl, rfl⟩
theorem r_12_minutesFrom_59 : RKv M_X12_minutesFrom M_X12_behind 59 2 12 62 := ⟨477, by decide +kernel, wd_m12_477, ok_M_X12_behind, wd_s12_behind, rfl⟩
theorem r_12_minutesFrom_62 : RS M_X12_minutesFrom 62 4 64 := ⟨by decide, Or.inr ⟨by decide +kernel, rfl⟩⟩
theorem r_12_minutesFrom_64 : RL M_X12_minutesFrom 64 4 66 := Or.inr ⟨by decide +kernel, rfl⟩
theorem r_12_minutesFrom_66 : RB M_X12_minutesFrom 66 (.ifCond .ge) 75 69 := ⟨9, by decide +kernel, rfl, rfl⟩
theorem r_12_minutesFrom_69 : RC M_X12_minutesFrom 69 100000 72 := ⟨⟨by decide, by decide⟩, Or.inr (Or.inr (Or.inr (Or.inr ⟨260, by decide +kernel, wd_c12_260, rfl⟩)))⟩
theorem r_12_minutesFrom_72 : RB M_X12_minutesFrom 72 .goto 83 75 := ⟨11, by decide +kernel, rfl, rfl⟩
theorem r_12_minutesFrom_83 : RS M_X12_minutesFrom 83 5 85 := ⟨by decide, Or.inr ⟨by decide +kernel, rfl⟩⟩
theorem r_12_minutesFrom_85 : RL M_X12_minutesFrom 85 5 87 := Or.inr ⟨by decide +kernel, rfl⟩
theorem r_12_minutesFrom_87 : RL M_X12_minutesFrom 87 2 88 := Or.inl ⟨2, by decide +kernel, rfl, rfl⟩
theorem r_12_minutesFrom_88 : RB M_X12_minutesFrom 88 (.if_icmp .ge) 96 91 := ⟨8, by decide +kernel, rfl, rfl⟩
theorem r_12_minutesFrom_96 : RL M_X12_minutesFrom 96 2 97 := Or.inl ⟨2, by decide +kernel, rfl, rfl⟩
theorem r_12_minutesFrom_97 : RS M_X12_minutesFrom 97 2 98 := ⟨by decide, Or.inl ⟨2, by decide +kernel, rfl, rfl⟩⟩
theorem r_12_minutesFrom_98 : RI M_X12_minutesFrom 98 3 1 101 := ⟨by decide, by decide +kernel, rfl⟩
theorem r_12_minutesFrom_101 : RB M_X12_minutesFrom 101 .goto 51 104 := ⟨(-50), by decide +kernel, rfl, rfl⟩
theorem r_12_minutesFrom_91 : RL M_X12_minutesFrom 91 5 93 := Or.inr ⟨by decide +kernel, rfl⟩
theorem r_12_minutesFrom_93 : RB M_X12_minutesFrom 93 .goto 97 96 := ⟨4, by decide +kernel, rfl, rfl⟩
theorem r_12_minutesFrom_75 : RC M_X12_minutesFrom 75 1 76 := ⟨⟨by decide, by decide⟩, Or.inl ⟨by decide +kernel, rfl⟩⟩
theorem r_12_minutesFrom_76 : RA M_X12_minutesFrom 76 0 77 := Or.inl ⟨0, by decide +kernel, rfl, rfl⟩
theorem r_12_minutesFrom_77 : RL M_X12_minutesFrom 77 4 79 := Or.inr ⟨by decide +kernel, rfl⟩
theorem r_12_minutesFrom_79 : RKv M_X12_minutesFrom M_X12_minutesFrom 79 1 12 82 := ⟨480, by decide +kernel, wd_m12_480, ok_M_X12_minutesFrom, wd_s12_minutesFrom, rfl⟩
theorem r_12_minutesFrom_82 : RW M_X12_minutesFrom 82 .iadd 83 1 := ⟨by decide +kernel, rfl⟩
theorem r_12_minutesFrom_44 : RC M_X12_minutesFrom 44 0 45 := ⟨⟨by decide, by decide⟩, Or.inl ⟨by decide +kernel, rfl⟩⟩
theorem r_12_minutesFrom_45 : RS M_X12_minutesFrom 45 2 46 := ⟨by decide, Or.inl ⟨2, by decide +kernel, rfl, rfl⟩⟩
theorem r_12_minutesFrom_46 : RB M_X12_minutesFrom 46 .goto 104 49 := ⟨58, by decide +kernel, rfl, rfl⟩
theorem r_12_minutesFrom_9 : RA M_X12_minutesFrom 9 0 10 := Or.inl ⟨0, by decide +kernel, rfl, rfl⟩
theorem r_12_minutesFrom_10 : RG M_X12_minutesFrom 10 12 84 13 := ⟨195, _, by decide +kernel, rfl, by decide, wd_f12_195, rfl, rfl⟩
theorem r_12_minutesFrom_13 : RL M_X12_minutesFrom 13 1 14 := Or.inl ⟨1, by decide +kernel, rfl, rfl⟩
theorem r_12_minutesFrom_14 : RW M_X12_minutesFrom 14 .iaload 15 1 := ⟨by decide +kernel, rfl⟩
theorem r_12_minutesFrom_15 : RW M_X12_minutesFrom 15 .ireturn 16 1 := ⟨by decide +kernel, rfl⟩
set_option maxRecDepth 10000 in
set_option maxHeartbeats 4000000 in
theorem sp_X12_minutesFrom {l : Launch} {w : Wo} : ∀ (n0 : Nat), ∀ {d : Nat} {G : PH} {P : Option PV → PH → Prop} {s a b : Int} {TA TB : Int} {wa wb : Int → Int} {V : Int → Int → Int}, (TA - a + (TB - b) < (n0 : Int)) → ((0 ≤ (gA G 257 0 (0)) ∧ (gA G 257 0 (0)) ≤ 10) ∧ 0 ≤ (gA G 257 0 (1)) ∧ (gA G 257 0 (1)) ≤ 10) → (∀ i, 0 ≤ i → i < (gA G 257 0 (0)) → 1 ≤ (gA G 256 0 (i)) ∧ (gA G 256 0 (i)) ≤ 9) → (∀ i, 0 ≤ i → i < (gA G 257 0 (1)) → 1 ≤ (gA G 256 0 (10 + i)) ∧ (gA G 256 0 (10 + i)) ≤ 9) → (1 ≤ (gF G 12 0 85) ∧ (gF G 12 0 85) ≤ 3) → (s = stW wa wb a b) → ((0 ≤ a ∧ a ≤ TA) ∧ 0 ≤ b ∧ b ≤ TB) → (RWy (gA G 257 0 (0)) wa TA) → (RWy (gA G 257 0 (1)) wb TB) → (∀ i, 0 ≤ i → i < (gA G 257 0 (0)) → (gA G 256 0 (i)) = wa i) → (∀ i, 0 ≤ i → i < (gA G 257 0 (1)) → (gA G 256 0 (10 + i)) = wb i) → (BEL wa wb TA TB (gF G 12 0 85) V) → (MIF wa wb TA TB V (gA G 258 0)) → (∀ f : Int → Int, MIF wa wb TA TB V f → P (some (vI (dn (V a b)))) (uA G 258 0 f)) → PW l w M_X12_minutesFrom (d + n0 + 3) 0 [some (vR 12 (0)), some (vI (s)), none, none, none, none] [] G P := by
  intro n0
  induction n0 with
  | zero => intros; exfalso; omega
  | succ nR ihR =>
    intro d G P s a b TA TB wa wb V hM hwk hw0 hw1 hah hs hab hRA hRB hwa hwb hBE hmi hP
    rw [show d + (nR + 1) + 3 = d + nR + 4 by omega]
    have hnn : (gA G 257 0 (0)) ≤ 10 ∧ (gA G 257 0 (1)) ≤ 10 := ⟨hwk.1.2, hwk.2.2⟩
    have hTT : TA ≤ 90 ∧ TB ≤ 90 := ⟨hRA.1.2, hRB.1.2⟩
    have hsi : 0 ≤ s ∧ s < 12100 := by rw [hs]; exact st_in hRA hRB hnn hab.1 hab.2
    have hend := st_end hRA hRB hnn hab.1 hab.2
    rw [← hs] at hend
    have hkA := hRA.2.2.2 a hab.1.1 hab.1.2
    have hkB := hRB.2.2.2 b hab.2.1 hab.2.2
    refine pw_aload r_12_minutesFrom_0 rfl ?_
    refine pw_getR r_12_minutesFrom_1 fs_12_84 (by decide) ?_
    refine pw_iload r_12_minutesFrom_4 rfl ?_
    refine pw_iald r_12_minutesFrom_5 sh258 (by omega) (by omega) ?_
    refine pw_if_lt r_12_minutesFrom_6 (fun h06 => ?_) (fun h06 => ?_)
    · skip
      refine pw_const r_12_minutesFrom_16 ?_
      refine pw_istore (ls' := [some (vR 12 (0)), some (vI (s)), some (vI (100000)), none, none, none]) r_12_minutesFrom_19 rfl rfl ?_
      refine pw_iload r_12_minutesFrom_20 rfl ?_
      refine pw_aload r_12_minutesFrom_21 rfl ?_
      refine pw_getR r_12_minutesFrom_22 fs_12_83 (by decide) ?_
      refine pw_const r_12_minutesFrom_25 ?_
      refine pw_iald r_12_minutesFrom_26 sh257 (by omega) (by omega) ?_
      refine pw_const r_12_minutesFrom_27 ?_
      refine pw_imul r_12_minutesFrom_30 (by omega) ?_
      refine pw_aload r_12_minutesFrom_31 rfl ?_
      refine pw_getR r_12_minutesFrom_32 fs_12_83 (by decide) ?_
      refine pw_const r_12_minutesFrom_35 ?_
      refine pw_iald r_12_minutesFrom_36 sh257 (by omega) (by omega) ?_
      refine pw_const r_12_minutesFrom_37 ?_
      refine pw_imul r_12_minutesFrom_39 (by omega) ?_
      refine pw_iadd r_12_minutesFrom_40 (by omega) ?_
      refine pw_icmp_ne r_12_minutesFrom_41 (fun h41 => ?_) (fun h41 => ?_)
      · skip
        have hne : neP a b TA TB := fun z => by have := hend.mpr z; omega
        clear hend
        refine pw_const r_12_minutesFrom_49 ?_
        refine pw_istore (ls' := [some (vR 12 (0)), some (vI (s)), some (vI (100000)), some (vI (0)), none, none]) r_12_minutesFrom_50 rfl rfl ?_
        have L51 : ∀ (nF : Nat) (c q : Int) (f : Int → Int), (hc : 0 ≤ c ∧ c ≤ 4) → (hq : q = lsC wa wb TA TB (gF G 12 0 85) V a b c) → (hqr : 0 ≤ q ∧ q ≤ 100000) → (hf : MIF wa wb TA TB V f) → (4 - c).toNat < nF → PW l w M_X12_minutesFrom (d + nR + 4) 51 [some (vR 12 (0)), some (vI (s)), some (vI (q)), some (vI (c)), none, none] [] (uA G 258 (0) (f)) P := by
          intro nF
          induction nF with
          | zero => intro _ _ _ _ _ _ _ hM; exact absurd hM (Nat.not_lt_zero _)
          | succ nF ih51 =>
            intro c q f hc hq hqr hf hM51
            refine pw_iload r_12_minutesFrom_51 rfl ?_
            refine pw_const r_12_minutesFrom_52 ?_
            refine pw_icmp_ge r_12_minutesFrom_53 (fun h53 => ?_) (fun h53 => ?_)
            · skip
              refine pw_aload r_12_minutesFrom_104 rfl ?_
              refine pw_getR r_12_minutesFrom_105 fs_12_84 (by decide) ?_
              refine pw_iload r_12_minutesFrom_108 rfl ?_
              refine pw_iload r_12_minutesFrom_109 rfl ?_
              refine pw_iast r_12_minutesFrom_110 sh258 (by omega) (by omega) ?_
              refine pw_iload r_12_minutesFrom_111 rfl ?_
              have ec : c = 4 := by omega
              have edn : q = dn (V a b) := by rw [hq, ec]; exact ls_4 hBE hab.1 hab.2 hTT hne
              have hm9 := mi_set hRA hRB hnn hab.1 hab.2 hf
              rw [← hs, ← edn] at hm9
              have hh := hP _ hm9
              rw [← edn] at hh
              have hh2 := Eq.mp (congrArg (P (some (vI q))) (sA_uA G 258 0 s q f).symm) hh
              refine pw_iret r_12_minutesFrom_112 rfl (Nat.le_refl _) ⟨rfl, ?_⟩
              exact hh2
            · skip
              obtain ⟨x1, a1, hx1⟩ := ex_x1 (c := c) (k := plK wa a) (v := (gA G 256 0 (plK wa a))) (x := plX wa a) (by omega)
              obtain ⟨y1, b1, hy1⟩ := ex_y1 (c := c) (k := plK wb b) (v := (gA G 256 0 (10 + plK wb b))) (x := plX wb b)
              have hbk := bok_2 (va := gA G 256 0) (vb := fun i => gA G 256 0 (10 + i)) (h := (gF G 12 0 85)) hRA hRB hab.1 hab.2 hwa hwb hx1 hy1
              refine pw_aload r_12_minutesFrom_56 rfl ?_
              refine pw_iload r_12_minutesFrom_57 rfl ?_
              refine pw_iload r_12_minutesFrom_58 rfl ?_
              refine pw_callV (av := [vI (s), vI (c)]) (st := []) (ls0 := [some (vR 12 (0)), some (vI (s)), some (vI (c)), none, none, none, none, none]) r_12_minutesFrom_59 rfl rfl rfl (Nat.le_refl _) ?_
              refine sp_X12_behind (a := (plK wa a)) (x := (plX wa a)) (b := (plK wb b)) (y := (plX wb b)) (x1 := x1) (a1 := a1) (y1 := y1) (b1 := b1) (by exact hwk) (by exact hw0) (by exact hw1) (by exact hah) (by exact hs) (by exact ⟨hkA.1, hkB.1, ⟨hkA.2.1, by omega⟩, hkB.2.1, by omega⟩) (by omega) (by exact hx1) (by exact hy1) ?_ ?_
              · skip
                intro qb
                have hno : ¬ okH wa wb TA TB (gF G 12 0 85) a b c := fun y => qb (hbk.1.mpr y)
                clear qb
                have hnC := nC_f (V := V) hno
                refine pw_istore (ls' := [some (vR 12 (0)), some (vI (s)), some (vI (q)), some (vI (c)), some (vI (-1)), none]) r_12_minutesFrom_62 rfl rfl ?_
                refine pw_iload r_12_minutesFrom_64 rfl ?_
                refine pw_if_ge r_12_minutesFrom_66 (fun h66 => absurd h66 (by omega)) (fun h66 => ?_)
                refine pw_const r_12_minutesFrom_69 ?_
                refine pw_goto r_12_minutesFrom_72 ?_
                refine pw_istore (ls' := [some (vR 12 (0)), some (vI (s)), some (vI (q)), some (vI (c)), some (vI (-1)), some (vI (100000))]) r_12_minutesFrom_83 rfl rfl ?_
                refine pw_iload r_12_minutesFrom_85 rfl ?_
                refine pw_iload r_12_minutesFrom_87 rfl ?_
                refine pw_icmp_ge r_12_minutesFrom_88 (fun h88 => ?_) (fun h88 => ?_)
                · skip
                  refine pw_iload r_12_minutesFrom_96 rfl ?_
                  refine pw_istore (ls' := [some (vR 12 (0)), some (vI (s)), some (vI (q)), some (vI (c)), some (vI (-1)), some (vI (100000))]) r_12_minutesFrom_97 rfl rfl ?_
                  refine pw_iinc (b := 0) (ls' := [some (vR 12 (0)), some (vI (s)), some (vI (q)), some (vI ((c + 1))), some (vI (-1)), some (vI (100000))]) r_12_minutesFrom_98 rfl rfl (by omega) rfl ?_
                  refine pw_goto r_12_minutesFrom_101 ?_
                  refine pw_weakL (ls' := [some (vR 12 (0)), some (vI (s)), some (vI (q)), some (vI ((c + 1))), none, none]) (⟨rfl, ⟨rfl, ⟨rfl, ⟨rfl, trivial⟩⟩⟩⟩) ?_
                  exact ih51 ((c + 1)) (q) (f) (by first | assumption | omega) (by rw [lsC_s hc.1]; omega) (by omega) (hf) (by omega)
                · skip
                  refine pw_iload r_12_minutesFrom_91 rfl ?_
                  refine pw_goto r_12_minutesFrom_93 ?_
                  refine pw_istore (ls' := [some (vR 12 (0)), some (vI (s)), some (vI (100000)), some (vI (c)), some (vI (-1)), some (vI (100000))]) r_12_minutesFrom_97 rfl rfl ?_
                  refine pw_iinc (b := 0) (ls' := [some (vR 12 (0)), some (vI (s)), some (vI (100000)), some (vI ((c + 1))), some (vI (-1)), some (vI (100000))]) r_12_minutesFrom_98 rfl rfl (by omega) rfl ?_
                  refine pw_goto r_12_minutesFrom_101 ?_
                  refine pw_weakL (ls' := [some (vR 12 (0)), some (vI (s)), some (vI (100000)), some (vI ((c + 1))), none, none]) (⟨rfl, ⟨rfl, ⟨rfl, ⟨rfl, trivial⟩⟩⟩⟩) ?_
                  exact ih51 ((c + 1)) (100000) (f) (by first | assumption | omega) (by rw [lsC_s hc.1]; omega) (by omega) (hf) (by omega)
              · skip
                intro qb
                have ho : okH wa wb TA TB (gF G 12 0 85) a b c := hbk.1.mp qb
                have hnx := hbk.2 ho
                clear qb
                have hsg := sg_of ho
                have ho1 := hsg.2.2.2.1
                have ho2 := hsg.2.2.2.2
                have hnC := nC_t (V := V) ho
                have hdn := dn_in (a := a + sgA c (plX wa a)) (b := b + sgB c (plX wb b)) hBE ⟨by omega, ho1⟩ ⟨by omega, ho2⟩ hTT
                replace hdn := hdn.1
                have hst := st_in hRA hRB hnn (a := a + sgA c (plX wa a)) (b := b + sgB c (plX wb b)) ⟨by omega, ho1⟩ ⟨by omega, ho2⟩
                refine pw_istore (ls' := [some (vR 12 (0)), some (vI (s)), some (vI (q)), some (vI (c)), some (vI (1100 * a1 + 110 * tk x1 + 10 * b1 + tk y1)), none]) r_12_minutesFrom_62 rfl rfl ?_
                refine pw_iload r_12_minutesFrom_64 rfl ?_
                refine pw_if_ge r_12_minutesFrom_66 (fun h66 => ?_) (fun h66 => absurd h66 (by omega))
                refine pw_const r_12_minutesFrom_75 ?_
                refine pw_aload r_12_minutesFrom_76 rfl ?_
                refine pw_iload r_12_minutesFrom_77 rfl ?_
                refine pw_callV (av := [vI (1100 * a1 + 110 * tk x1 + 10 * b1 + tk y1)]) (st := [vI (1)]) (ls0 := [some (vR 12 (0)), some (vI (1100 * a1 + 110 * tk x1 + 10 * b1 + tk y1)), none, none, none, none]) r_12_minutesFrom_79 rfl rfl rfl (Nat.le_refl _) ?_
                refine ihR (d := d) (a := (a + sgA c (plX wa a))) (b := (b + sgB c (plX wb b))) (TA := TA) (TB := TB) (wa := wa) (wb := wb) (V := V) (by omega) (by exact hwk) (by exact hw0) (by exact hw1) (by exact hah) (by exact hnx) (by exact ⟨⟨by omega, ho1⟩, by omega, ho2⟩) (by exact hRA) (by exact hRB) (by exact hwa) (by exact hwb) (by exact hBE) (by exact hf) ?_
                intro f1 hf1
                refine pw_iadd r_12_minutesFrom_82 (by omega) ?_
                refine pw_istore (ls' := [some (vR 12 (0)), some (vI (s)), some (vI (q)), some (vI (c)), some (vI (1100 * a1 + 110 * tk x1 + 10 * b1 + tk y1)), some (vI ((1 + (dn (V (a + sgA c (plX wa a)) (b + sgB c (plX wb b)))))))]) r_12_minutesFrom_83 rfl rfl ?_
                refine pw_iload r_12_minutesFrom_85 rfl ?_
                refine pw_iload r_12_minutesFrom_87 rfl ?_
                refine pw_icmp_ge r_12_minutesFrom_88 (fun h88 => ?_) (fun h88 => ?_)
                · skip
                  refine pw_iload r_12_minutesFrom_96 rfl ?_
                  refine pw_istore (ls' := [some (vR 12 (0)), some (vI (s)), some (vI (q)), some (vI (c)), some (vI (1100 * a1 + 110 * tk x1 + 10 * b1 + tk y1)), some (vI ((1 + (dn (V (a + sgA c (plX wa a)) (b + sgB c (plX wb b)))))))]) r_12_minutesFrom_97 rfl rfl ?_
                  refine pw_iinc (b := 0) (ls' := [some (vR 12 (0)), some (vI (s)), some (vI (q)), some (vI ((c + 1))), some (vI (1100 * a1 + 110 * tk x1 + 10 * b1 + tk y1)), some (vI ((1 + (dn (V (a + sgA c (plX wa a)) (b + sgB c (plX wb b)))))))]) r_12_minutesFrom_98 rfl rfl (by omega) rfl ?_
                  refine pw_goto r_12_minutesFrom_101 ?_
                  refine pw_weakL (ls' := [some (vR 12 (0)), some (vI (s)), some (vI (q)), some (vI ((c + 1))), none, none]) (⟨rfl, ⟨rfl, ⟨rfl, ⟨rfl, trivial⟩⟩⟩⟩) ?_
                  refine pw_eqG (G' := uA G 258 (0) (f1)) (by rw [uA_uA]) ?_
                  exact ih51 ((c + 1)) (q) (f1) (by first | assumption | omega) (by rw [lsC_s hc.1]; omega) (by omega) (hf1) (by omega)
                · skip
                  refine pw_iload r_12_minutesFrom_91 rfl ?_
                  refine pw_goto r_12_minutesFrom_93 ?_
                  refine pw_istore (ls' := [some (vR 12 (0)), some (vI (s)), some (vI ((1 + (dn (V (a + sgA c (plX wa a)) (b + sgB c (plX wb b))))))), some (vI (c)), some (vI (1100 * a1 + 110 * tk x1 + 10 * b1 + tk y1)), some (vI ((1 + (dn (V (a + sgA c (plX wa a)) (b + sgB c (plX wb b)))))))]) r_12_minutesFrom_97 rfl rfl ?_
                  refine pw_iinc (b := 0) (ls' := [some (vR 12 (0)), some (vI (s)), some (vI ((1 + (dn (V (a + sgA c (plX wa a)) (b + sgB c (plX wb b))))))), some (vI ((c + 1))), some (vI (1100 * a1 + 110 * tk x1 + 10 * b1 + tk y1)), some (vI ((1 + (dn (V (a + sgA c (plX wa a)) (b + sgB c (plX wb b)))))))]) r_12_minutesFrom_98 rfl rfl (by omega) rfl ?_
                  refine pw_goto r_12_minutesFrom_101 ?_
                  refine pw_weakL (ls' := [some (vR 12 (0)), some (vI (s)), some (vI ((1 + (dn (V (a + sgA c (plX wa a)) (b + sgB c (plX wb b))))))), some (vI ((c + 1))), none, none]) (⟨rfl, ⟨rfl, ⟨rfl, ⟨rfl, trivial⟩⟩⟩⟩) ?_
                  refine pw_eqG (G' := uA G 258 (0) (f1)) (by rw [uA_uA]) ?_
                  exact ih51 ((c + 1)) ((1 + (dn (V (a + sgA c (plX wa a)) (b + sgB c (plX wb b)))))) (f1) (by first | assumption | omega) (by rw [lsC_s hc.1]; omega) (by omega) (hf1) (by omega)
        refine pw_eqG (G' := uA G 258 (0) ((gA G 258 0))) ((uA_own _ _ _).symm) ?_
        exact L51 _ (0) (100000) ((gA G 258 0)) (by first | assumption | omega) (lsC_0.symm) (by omega) (hmi) (Nat.lt_succ_self _)
      · skip
        have eV : a = TA ∧ b = TB := hend.mp (by omega)
        have edn : dn (V a b) = 0 := by rw [eV.1, eV.2, bel_e hBE ⟨hRA.1.1, hRB.1.1⟩]; rfl
        refine pw_const r_12_minutesFrom_44 ?_
        refine pw_istore (ls' := [some (vR 12 (0)), some (vI (s)), some (vI (0)), none, none, none]) r_12_minutesFrom_45 rfl rfl ?_
        refine pw_goto r_12_minutesFrom_46 ?_
        refine pw_aload r_12_minutesFrom_104 rfl ?_
        refine pw_getR r_12_minutesFrom_105 fs_12_84 (by decide) ?_
        refine pw_iload r_12_minutesFrom_108 rfl ?_
        refine pw_iload r_12_minutesFrom_109 rfl ?_
        refine pw_iast r_12_minutesFrom_110 sh258 (by omega) (by omega) ?_
        refine pw_iload r_12_minutesFrom_111 rfl ?_
        have hm9 := mi_set hRA hRB hnn hab.1 hab.2 hmi
        rw [← hs, edn] at hm9
        have hh := hP _ hm9
        rw [edn] at hh
        have hh2 := Eq.mp (congrArg (P (some (vI 0))) (sA_eq G 258 0 s 0).symm) hh
        refine pw_iret r_12_minutesFrom_112 rfl (Nat.le_refl _) ⟨rfl, ?_⟩
        exact hh2
    · skip
      refine pw_aload r_12_minutesFrom_9 rfl ?_
      refine pw_getR r_12_minutesFrom_10 fs_12_84 (by decide) ?_
      refine pw_iload r_12_minutesFrom_13 rfl ?_
      refine pw_iald r_12_minutesFrom_14 sh258 (by omega) (by omega) ?_
      refine pw_iret r_12_minutesFrom_15 rfl (Nat.le_refl _) ⟨rfl, ?_⟩
      have hh := hP (gA G 258 0) hmi
      rw [uA_own] at hh
      have e9 : (gA G 258 0 (s)) = dn (V a b) := by have e8 := hmi a b hab.1.1 hab.1.2 hab.2.1 hab.2.2; rw [← hs] at e8; omega
      exact pe hh e9

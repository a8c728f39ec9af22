def sbN (w : Int → Int) (set : Int) : Nat → Int
  | 0 => 0
  | n + 1 => if pAnd (pShr set n) 1 ≠ 0 then sbN w set n + w n else sbN w set n
def sbI (w : Int → Int) (set n : Int) : Int := sbN w set n.toNat
def mxN (w : Int → Int) (set y : Int) : Nat → Int
  | 0 => y
  | n + 1 => if pAnd (pShr set n) 1 ≠ 0 then max (mxN w set y n) (w n) else mxN w set y n
def mxI (w : Int → Int) (set y n : Int) : Int := mxN w set y n.toNat
section SB
variable {w : Int → Int} {set y n : Int}
theorem sb_0 : sbI w set 0 = 0 := rfl
theorem mx_0 : mxI w set y 0 = y := rfl
theorem sb_t (h : 0 ≤ n) (hb : bt set n) : sbI w set (n + 1) = sbI w set n + w n := by
  unfold sbI
  rw [show (n + 1).toNat = n.toNat + 1 by omega, sbN, Int.toNat_of_nonneg h]
  exact if_pos hb
theorem sb_f (h : 0 ≤ n) (hb : ¬ bt set n) : sbI w set (n + 1) = sbI w set n := by
  unfold sbI
  rw [show (n + 1).toNat = n.toNat + 1 by omega, sbN, Int.toNat_of_nonneg h]
  exact if_neg hb
theorem mx_t (h : 0 ≤ n) (hb : bt set n) : mxI w set y (n + 1) = max (mxI w set y n) (w n) := by
  unfold mxI
  rw [show (n + 1).toNat = n.toNat + 1 by omega, mxN, Int.toNat_of_nonneg h]
  exact if_pos hb
theorem mx_f (h : 0 ≤ n) (hb : ¬ bt set n) : mxI w set y (n + 1) = mxI w set y n := by
  unfold mxI
  rw [show (n + 1).toNat = n.toNat + 1 by omega, mxN, Int.toNat_of_nonneg h]
  exact if_neg hb
theorem sb_in (hn : 0 ≤ n) (hg : ∀ i, 0 ≤ i → i < n → 0 ≤ w i ∧ w i ≤ 99) : 0 ≤ sbI w set n ∧ sbI w set n ≤ 99 * n := by
  refine nat_ind (p := fun n => (∀ i, 0 ≤ i → i < n → 0 ≤ w i ∧ w i ≤ 99) → 0 ≤ sbI w set n ∧ sbI w set n ≤ 99 * n) (fun _ => by rw [sb_0]; decide) (fun n hn ih hg => ?_) n hn hg
  have h1 := ih (fun i a b => hg i a (by omega))
  have h2 := hg n hn (by omega)
  by_cases e : bt set n
  · rw [sb_t hn e]; omega
  · rw [sb_f hn e]; omega
theorem sb_congr {u : Int → Int} (hn : 0 ≤ n) (hg : ∀ i, 0 ≤ i → i < n → w i = u i) : sbI w set n = sbI u set n := by
  refine nat_ind (p := fun n => (∀ i, 0 ≤ i → i < n → w i = u i) → sbI w set n = sbI u set n) (fun _ => rfl) (fun n hn ih hg => ?_) n hn hg
  have h1 := ih (fun i a b => hg i a (by omega))
  by_cases e : bt set n
  · rw [sb_t hn e, sb_t hn e, h1, hg n hn (by omega)]
  · rw [sb_f hn e, sb_f hn e, h1]
theorem mx_congr {u : Int → Int} (hn : 0 ≤ n) (hg : ∀ i, 0 ≤ i → i < n → w i = u i) : mxI w set y n = mxI u set y n := by
  refine nat_ind (p := fun n => (∀ i, 0 ≤ i → i < n → w i = u i) → mxI w set y n = mxI u set y n) (fun _ => rfl) (fun n hn ih hg => ?_) n hn hg
  have h1 := ih (fun i a b => hg i a (by omega))
  by_cases e : bt set n
  · rw [mx_t hn e, mx_t hn e, h1, hg n hn (by omega)]
  · rw [mx_f hn e, mx_f hn e, h1]
theorem mx_in (hn : 0 ≤ n) (hg : ∀ i, 0 ≤ i → i < n → w i ≤ 762) : y ≤ mxI w set y n ∧ mxI w set y n ≤ max y 762 := by
  refine nat_ind (p := fun n => (∀ i, 0 ≤ i → i < n → w i ≤ 762) → y ≤ mxI w set y n ∧ mxI w set y n ≤ max y 762) (fun _ => by rw [mx_0]; omega) (fun n hn ih hg => ?_) n hn hg
  have h1 := ih (fun i a b => hg i a (by omega))
  have h2 := hg n hn (by omega)
  by_cases e : bt set n
  · rw [mx_t hn e]; omega
  · rw [mx_f hn e]; omega
theorem mx_max {d : Int} (hn : 0 ≤ n) (hd : d ≤ y) : max y (mxI w set d n) = mxI w set y n := by
  refine nat_ind (p := fun n => max y (mxI w set d n) = mxI w set y n) (by rw [mx_0, mx_0]; omega) (fun n hn ih => ?_) n hn
  by_cases e : bt set n
  · rw [mx_t hn e, mx_t hn e, ← ih]; omega
  · rw [mx_f hn e, mx_f hn e]; exact ih
end SB
def wsOk (S F R : Int → Int) (n s f d : Int) (fi pe re : Int → Int) (x : Int) : Prop := fi x = b2i (sbI S x n ≤ s ∧ sbI F x n ≤ f) ∧ pe x = sbI S x n + sbI F x n ∧ re x = mxI R x d n
theorem b2i_ni {p : Prop} : b2i p ≠ 0 ↔ p := ⟨fun h => Classical.byContradiction fun z => b2i_nn z h, b2i_ne⟩
theorem tb_of {S F R fi pe re : Int → Int} {n s f d x : Int} (hn : 0 ≤ n ∧ n ≤ 6) (hg : ∀ i, 0 ≤ i → i < n → (0 ≤ S i ∧ S i ≤ 99) ∧ 0 ≤ F i ∧ F i ≤ 99) (hR : ∀ i, 0 ≤ i → i < n → R i ≤ 762) (h : wsOk S F R n s f d fi pe re x) : (fi x ≠ 0 ↔ (sbI S x n ≤ s ∧ sbI F x n ≤ f)) ∧ (pe x = sbI S x n + sbI F x n ∧ 0 ≤ sbI S x n + sbI F x n ∧ sbI S x n + sbI F x n ≤ 1188) ∧ ∀ y, d ≤ y → y ≤ 942 → max y (re x) = mxI R x y n ∧ y ≤ mxI R x y n ∧ mxI R x y n ≤ max y 762 := by
  have h1 := sb_in (w := S) (set := x) hn.1 (fun i a b => (hg i a b).1)
  have h2 := sb_in (w := F) (set := x) hn.1 (fun i a b => (hg i a b).2)
  refine ⟨by rw [h.1]; exact b2i_ni, ⟨h.2.1, by omega, by omega⟩, fun y y0 y1 => ?_⟩
  rw [h.2.2]
  exact ⟨mx_max hn.1 y0, mx_in hn.1 hR⟩
def fgC (G : PH) (c r : Int) : Prop := ∃ Dr, IsD (fun u v => (gA G 43 0 (u * 18 + v))) (fun u => ¬ (0 ≤ u ∧ u < (gF G 2 0 2)) ∨ (gA G 41 0 (u)) = (gA G 41 0 (c))) c 1000000000 Dr ∧ (∀ v, 0 ≤ v → v < 18 → Dr v < 1000000000 → Dr v ≤ 162) ∧ Dr 16 < 1000000000 ∧ r = Dr 16
def nfC (G : PH) (c : Int) : Prop := ∃ Dr, IsD (fun u v => (gA G 43 0 (u * 18 + v))) (fun u => ¬ (0 ≤ u ∧ u < (gF G 2 0 2)) ∨ (gA G 41 0 (u)) = (gA G 41 0 (c))) c 1000000000 Dr ∧ (∀ v, 0 ≤ v → v < 18 → Dr v < 1000000000 → Dr v ≤ 162) ∧ 1000000000 ≤ Dr 16
def fgM (G : PH) (c r : Int) : Prop := ∃ Dr, IsD (fun u v => (gA G 202 0 (18 * u + v))) (fun u => u = c ∨ 16 ≤ u ∨ (gA G 200 0 (u)) = (gA G 200 0 (c))) c 100000 Dr ∧ Dr 16 < 100000 ∧ r = Dr 16
def nfM (G : PH) (c : Int) : Prop := ∃ Dr, IsD (fun u v => (gA G 202 0 (18 * u + v))) (fun u => u = c ∨ 16 ≤ u ∨ (gA G 200 0 (u)) = (gA G 200 0 (c))) c 100000 Dr ∧ 100000 ≤ Dr 16
theorem fgC_in {G : PH} {c r : Int} (h : fgC G c r) : 0 ≤ r ∧ r ≤ 162 := by
  obtain ⟨Dr, a, b, e, f⟩ := h
  have h1 := a.2.1 16 (by decide) (by decide)
  have h2 := b 16 (by decide) (by decide) e
  omega

theorem wd_f7_50 : Cond.fieldLink "NameRolls$Ship" 50 "NameRolls$Ship" "crowd" "LNameRolls$Crowd;" ∈ UW := UW2_at 118 (by decide +kernel) rfl
theorem wd_f7_72 : Cond.fieldLink "NameRolls$Ship" 72 "NameRolls$Crowd" "day" "I" ∈ UW := UW1_at 73 (by decide +kernel) rfl
theorem wd_f7_21 : Cond.fieldLink "NameRolls$Ship" 21 "NameRolls$Ship" "readyOf" "[I" ∈ UW := UW2_at 123 (by decide +kernel) rfl
theorem r_7_weighSets_0 : RC M_X7_weighSets 0 1 1 := ⟨⟨by decide, by decide⟩, Or.inl ⟨by decide +kernel, rfl⟩⟩
theorem r_7_weighSets_1 : RS M_X7_weighSets 1 3 2 := ⟨by decide, Or.inl ⟨3, by decide +kernel, rfl, rfl⟩⟩
theorem r_7_weighSets_2 : RL M_X7_weighSets 2 3 3 := Or.inl ⟨3, by decide +kernel, rfl, rfl⟩
theorem r_7_weighSets_3 : RC M_X7_weighSets 3 64 5 := ⟨⟨by decide, by decide⟩, Or.inr (Or.inl ⟨by decide +kernel, by decide, rfl⟩)⟩
theorem r_7_weighSets_5 : RB M_X7_weighSets 5 (.if_icmp .ge) 168 8 := ⟨163, by decide +kernel, rfl, rfl⟩
theorem r_7_weighSets_168 : RW M_X7_weighSets 168 .return_ 169 1 := ⟨by decide +kernel, rfl⟩
theorem r_7_weighSets_8 : RL M_X7_weighSets 8 3 9 := Or.inl ⟨3, by decide +kernel, rfl, rfl⟩
theorem r_7_weighSets_9 : RC M_X7_weighSets 9 1 10 := ⟨⟨by decide, by decide⟩, Or.inl ⟨by decide +kernel, rfl⟩⟩
theorem r_7_weighSets_10 : RA M_X7_weighSets 10 0 11 := Or.inl ⟨0, by decide +kernel, rfl, rfl⟩
theorem r_7_weighSets_11 : RG M_X7_weighSets 11 7 2 14 := ⟨64, _, by decide +kernel, rfl, by decide, wd_f7_64, rfl, rfl⟩
theorem r_7_weighSets_14 : RW M_X7_weighSets 14 .ishl 15 1 := ⟨by decide +kernel, rfl⟩
theorem r_7_weighSets_15 : RB M_X7_weighSets 15 (.if_icmp .ge) 168 18 := ⟨153, by decide +kernel, rfl, rfl⟩
theorem r_7_weighSets_18 : RL M_X7_weighSets 18 1 19 := Or.inl ⟨1, by decide +kernel, rfl, rfl⟩
theorem r_7_weighSets_19 : RS M_X7_weighSets 19 4 21 := ⟨by decide, Or.inr ⟨by decide +kernel, rfl⟩⟩
theorem r_7_weighSets_21 : RL M_X7_weighSets 21 2 22 := Or.inl ⟨2, by decide +kernel, rfl, rfl⟩
theorem r_7_weighSets_22 : RS M_X7_weighSets 22 5 24 := ⟨by decide, Or.inr ⟨by decide +kernel, rfl⟩⟩
theorem r_7_weighSets_24 : RA M_X7_weighSets 24 0 25 := Or.inl ⟨0, by decide +kernel, rfl, rfl⟩
theorem r_7_weighSets_25 : RG M_X7_weighSets 25 7 8 28 := ⟨28, _, by decide +kernel, rfl, by decide, wd_f7_28, rfl, rfl⟩
theorem r_7_weighSets_28 : RL M_X7_weighSets 28 3 29 := Or.inl ⟨3, by decide +kernel, rfl, rfl⟩
theorem r_7_weighSets_29 : RC M_X7_weighSets 29 0 30 := ⟨⟨by decide, by decide⟩, Or.inl ⟨by decide +kernel, rfl⟩⟩
theorem r_7_weighSets_30 : RW M_X7_weighSets 30 .iastore 31 1 := ⟨by decide +kernel, rfl⟩
theorem r_7_weighSets_31 : RA M_X7_weighSets 31 0 32 := Or.inl ⟨0, by decide +kernel, rfl, rfl⟩
theorem r_7_weighSets_32 : RG M_X7_weighSets 32 7 9 35 := ⟨31, _, by decide +kernel, rfl, by decide, wd_f7_31, rfl, rfl⟩
theorem r_7_weighSets_35 : RL M_X7_weighSets 35 3 36 := Or.inl ⟨3, by decide +kernel, rfl, rfl⟩
theorem r_7_weighSets_36 : RA M_X7_weighSets 36 0 37 := Or.inl ⟨0, by decide +kernel, rfl, rfl⟩
theorem r_7_weighSets_37 : RG M_X7_weighSets 37 7 1 40 := ⟨50, _, by decide +kernel, rfl, by decide, wd_f7_50, rfl, rfl⟩
theorem r_7_weighSets_40 : RG M_X7_weighSets 40 1 2 43 := ⟨72, _, by decide +kernel, rfl, by decide, wd_f7_72, rfl, rfl⟩
theorem r_7_weighSets_43 : RW M_X7_weighSets 43 .iastore 44 1 := ⟨by decide +kernel, rfl⟩
theorem r_7_weighSets_44 : RC M_X7_weighSets 44 0 45 := ⟨⟨by decide, by decide⟩, Or.inl ⟨by decide +kernel, rfl⟩⟩
theorem r_7_weighSets_45 : RS M_X7_weighSets 45 6 47 := ⟨by decide, Or.inr ⟨by decide +kernel, rfl⟩⟩
theorem r_7_weighSets_47 : RL M_X7_weighSets 47 6 49 := Or.inr ⟨by decide +kernel, rfl⟩
theorem r_7_weighSets_49 : RA M_X7_weighSets 49 0 50 := Or.inl ⟨0, by decide +kernel, rfl, rfl⟩
theorem r_7_weighSets_50 : RG M_X7_weighSets 50 7 2 53 := ⟨64, _, by decide +kernel, rfl, by decide, wd_f7_64, rfl, rfl⟩
theorem r_7_weighSets_53 : RB M_X7_weighSets 53 (.if_icmp .ge) 141 56 := ⟨88, by decide +kernel, rfl, rfl⟩
theorem r_7_weighSets_141 : RA M_X7_weighSets 141 0 142 := Or.inl ⟨0, by decide +kernel, rfl, rfl⟩
theorem r_7_weighSets_142 : RG M_X7_weighSets 142 7 7 145 := ⟨24, _, by decide +kernel, rfl, by decide, wd_f7_24, rfl, rfl⟩
theorem r_7_weighSets_145 : RL M_X7_weighSets 145 3 146 := Or.inl ⟨3, by decide +kernel, rfl, rfl⟩
theorem r_7_weighSets_146 : RL M_X7_weighSets 146 4 148 := Or.inr ⟨by decide +kernel, rfl⟩
theorem r_7_weighSets_148 : RB M_X7_weighSets 148 (.ifCond .lt) 160 151 := ⟨12, by decide +kernel, rfl, rfl⟩
theorem r_7_weighSets_160 : RC M_X7_weighSets 160 0 161 := ⟨⟨by decide, by decide⟩, Or.inl ⟨by decide +kernel, rfl⟩⟩
theorem r_7_weighSets_161 : RW M_X7_weighSets 161 .bastore 162 1 := ⟨by decide +kernel, rfl⟩
theorem r_7_weighSets_162 : RI M_X7_weighSets 162 3 1 165 := ⟨by decide, by decide +kernel, rfl⟩
theorem r_7_weighSets_165 : RB M_X7_weighSets 165 .goto 2 168 := ⟨(-163), by decide +kernel, rfl, rfl⟩
theorem r_7_weighSets_151 : RL M_X7_weighSets 151 5 153 := Or.inr ⟨by decide +kernel, rfl⟩
theorem r_7_weighSets_153 : RB M_X7_weighSets 153 (.ifCond .lt) 160 156 := ⟨7, by decide +kernel, rfl, rfl⟩
theorem r_7_weighSets_156 : RC M_X7_weighSets 156 1 157 := ⟨⟨by decide, by decide⟩, Or.inl ⟨by decide +kernel, rfl⟩⟩
theorem r_7_weighSets_157 : RB M_X7_weighSets 157 .goto 161 160 := ⟨4, by decide +kernel, rfl, rfl⟩
theorem r_7_weighSets_56 : RL M_X7_weighSets 56 3 57 := Or.inl ⟨3, by decide +kernel, rfl, rfl⟩
theorem r_7_weighSets_57 : RL M_X7_weighSets 57 6 59 := Or.inr ⟨by decide +kernel, rfl⟩
theorem r_7_weighSets_59 : RW M_X7_weighSets 59 .ishr 60 1 := ⟨by decide +kernel, rfl⟩
theorem r_7_weighSets_60 : RC M_X7_weighSets 60 1 61 := ⟨⟨by decide, by decide⟩, Or.inl ⟨by decide +kernel, rfl⟩⟩
theorem r_7_weighSets_61 : RW M_X7_weighSets 61 .iand 62 1 := ⟨by decide +kernel, rfl⟩
theorem r_7_weighSets_62 : RB M_X7_weighSets 62 (.ifCond .eq) 135 65 := ⟨73, by decide +kernel, rfl, rfl⟩
theorem r_7_weighSets_135 : RI M_X7_weighSets 135 6 1 138 := ⟨by decide, by decide +kernel, rfl⟩
theorem r_7_weighSets_138 : RB M_X7_weighSets 138 .goto 47 141 := ⟨(-91), by decide +kernel, rfl, rfl⟩
theorem r_7_weighSets_65 : RL M_X7_weighSets 65 4 67 := Or.inr ⟨by decide +kernel, rfl⟩
theorem r_7_weighSets_67 : RA M_X7_weighSets 67 0 68 := Or.inl ⟨0, by decide +kernel, rfl, rfl⟩
theorem r_7_weighSets_68 : RG M_X7_weighSets 68 7 4 71 := ⟨15, _, by decide +kernel, rfl, by decide, wd_f7_15, rfl, rfl⟩
theorem r_7_weighSets_71 : RL M_X7_weighSets 71 6 73 := Or.inr ⟨by decide +kernel, rfl⟩
theorem r_7_weighSets_73 : RW M_X7_weighSets 73 .iaload 74 1 := ⟨by decide +kernel, rfl⟩
theorem r_7_weighSets_74 : RW M_X7_weighSets 74 .isub 75 1 := ⟨by decide +kernel, rfl⟩
theorem r_7_weighSets_75 : RS M_X7_weighSets 75 4 77 := ⟨by decide, Or.inr ⟨by decide +kernel, rfl⟩⟩
theorem r_7_weighSets_77 : RL M_X7_weighSets 77 5 79 := Or.inr ⟨by decide +kernel, rfl⟩
theorem r_7_weighSets_79 : RA M_X7_weighSets 79 0 80 := Or.inl ⟨0, by decide +kernel, rfl, rfl⟩
theorem r_7_weighSets_80 : RG M_X7_weighSets 80 7 5 83 := ⟨18, _, by decide +kernel, rfl, by decide, wd_f7_18, rfl, rfl⟩
theorem r_7_weighSets_83 : RL M_X7_weighSets 83 6 85 := Or.inr ⟨by decide +kernel, rfl⟩
theorem r_7_weighSets_85 : RW M_X7_weighSets 85 .iaload 86 1 := ⟨by decide +kernel, rfl⟩
theorem r_7_weighSets_86 : RW M_X7_weighSets 86 .isub 87 1 := ⟨by decide +kernel, rfl⟩
theorem r_7_weighSets_87 : RS M_X7_weighSets 87 5 89 := ⟨by decide, Or.inr ⟨by decide +kernel, rfl⟩⟩
theorem r_7_weighSets_89 : RA M_X7_weighSets 89 0 90 := Or.inl ⟨0, by decide +kernel, rfl, rfl⟩
theorem r_7_weighSets_90 : RG M_X7_weighSets 90 7 8 93 := ⟨28, _, by decide +kernel, rfl, by decide, wd_f7_28, rfl, rfl⟩
theorem r_7_weighSets_93 : RL M_X7_weighSets 93 3 94 := Or.inl ⟨3, by decide +kernel, rfl, rfl⟩
theorem r_7_weighSets_94 : RW M_X7_weighSets 94 .dup2 95 1 := ⟨by decide +kernel, rfl⟩
theorem r_7_weighSets_95 : RW M_X7_weighSets 95 .iaload 96 1 := ⟨by decide +kernel, rfl⟩
theorem r_7_weighSets_96 : RA M_X7_weighSets 96 0 97 := Or.inl ⟨0, by decide +kernel, rfl, rfl⟩
theorem r_7_weighSets_97 : RG M_X7_weighSets 97 7 4 100 := ⟨15, _, by decide +kernel, rfl, by decide, wd_f7_15, rfl, rfl⟩
theorem r_7_weighSets_100 : RL M_X7_weighSets 100 6 102 := Or.inr ⟨by decide +kernel, rfl⟩
theorem r_7_weighSets_102 : RW M_X7_weighSets 102 .iaload 103 1 := ⟨by decide +kernel, rfl⟩
theorem r_7_weighSets_103 : RA M_X7_weighSets 103 0 104 := Or.inl ⟨0, by decide +kernel, rfl, rfl⟩
theorem r_7_weighSets_104 : RG M_X7_weighSets 104 7 5 107 := ⟨18, _, by decide +kernel, rfl, by decide, wd_f7_18, rfl, rfl⟩
theorem r_7_weighSets_107 : RL M_X7_weighSets 107 6 109 := Or.inr ⟨by decide +kernel, rfl⟩
theorem r_7_weighSets_109 : RW M_X7_weighSets 109 .iaload 110 1 := ⟨by decide +kernel, rfl⟩
theorem r_7_weighSets_110 : RW M_X7_weighSets 110 .iadd 111 1 := ⟨by decide +kernel, rfl⟩
theorem r_7_weighSets_111 : RW M_X7_weighSets 111 .iadd 112 1 := ⟨by decide +kernel, rfl⟩
theorem r_7_weighSets_112 : RW M_X7_weighSets 112 .iastore 113 1 := ⟨by decide +kernel, rfl⟩
theorem r_7_weighSets_113 : RA M_X7_weighSets 113 0 114 := Or.inl ⟨0, by decide +kernel, rfl, rfl⟩
theorem r_7_weighSets_114 : RG M_X7_weighSets 114 7 9 117 := ⟨31, _, by decide +kernel, rfl, by decide, wd_f7_31, rfl, rfl⟩
theorem r_7_weighSets_117 : RL M_X7_weighSets 117 3 118 := Or.inl ⟨3, by decide +kernel, rfl, rfl⟩
theorem r_7_weighSets_118 : RA M_X7_weighSets 118 0 119 := Or.inl ⟨0, by decide +kernel, rfl, rfl⟩
theorem r_7_weighSets_119 : RG M_X7_weighSets 119 7 9 122 := ⟨31, _, by decide +kernel, rfl, by decide, wd_f7_31, rfl, rfl⟩
theorem r_7_weighSets_122 : RL M_X7_weighSets 122 3 123 := Or.inl ⟨3, by decide +kernel, rfl, rfl⟩
theorem r_7_weighSets_123 : RW M_X7_weighSets 123 .iaload 124 1 := ⟨by decide +kernel, rfl⟩
theorem r_7_weighSets_124 : RA M_X7_weighSets 124 0 125 := Or.inl ⟨0, by decide +kernel, rfl, rfl⟩
theorem r_7_weighSets_125 : RG M_X7_weighSets 125 7 6 128 := ⟨21, _, by decide +kernel, rfl, by decide, wd_f7_21, rfl, rfl⟩
theorem r_7_weighSets_128 : RL M_X7_weighSets 128 6 130 := Or.inr ⟨by decide +kernel, rfl⟩
theorem r_7_weighSets_130 : RW M_X7_weighSets 130 .iaload 131 1 := ⟨by decide +kernel, rfl⟩
theorem r_7_weighSets_131 : RKm M_X7_weighSets 131 Lib.Math.max.name 134 := ⟨92, by decide +kernel, wd_m7_92, rfl⟩
theorem r_7_weighSets_134 : RW M_X7_weighSets 134 .iastore 135 1 := ⟨by decide +kernel, rfl⟩
set_option maxRecDepth 10000 in
theorem sp_X7_weighSets {l : Launch} {w : Wo} {d : Nat} {G : PH} {P : Option PV → PH → Prop} {s f : Int} (hto : 0 ≤ (gF G 7 0 2) ∧ (gF G 7 0 2) ≤ 6) (hsh : pShl 1 (gF G 7 0 2) ≤ 64) (hg : ∀ i, 0 ≤ i → i < (gF G 7 0 2) → (0 ≤ (gA G 66 0 (i)) ∧ (gA G 66 0 (i)) ≤ 99) ∧ 0 ≤ (gA G 67 0 (i)) ∧ (gA G 67 0 (i)) ≤ 99) (hR : ∀ i, 0 ≤ i → i < (gF G 7 0 2) → (gA G 68 0 (i)) ≤ 762) (hs : 0 ≤ s ∧ s ≤ 999) (hf : 0 ≤ f ∧ f ≤ 999) (hP : ∀ pe re fi : Int → Int, (∀ y, 1 ≤ y → y < pShl 1 (gF G 7 0 2) → wsOk (gA G 66 0) (gA G 67 0) (gA G 68 0) (gF G 7 0 2) s f (gF G 1 0 2) (fi) (pe) (re) y) → P none (uA (uA (uA G 70 0 pe) 71 0 re) 69 0 fi)) : PW l w M_X7_weighSets (d + 1) 0 [some (vR 7 (0)), some (vI (s)), some (vI (f)), none, none, none, none] [] G P := by
  refine pw_const r_7_weighSets_0 ?_
  refine pw_istore (ls' := [some (vR 7 (0)), some (vI (s)), some (vI (f)), some (vI (1)), none, none, none]) r_7_weighSets_1 rfl rfl ?_
  have L2 : ∀ (nF : Nat) (x : Int) (pe re fi : Int → Int), (hx : 1 ≤ x ∧ x ≤ 64) → (hO : ∀ y, 1 ≤ y → y < x → wsOk (gA G 66 0) (gA G 67 0) (gA G 68 0) (gF G 7 0 2) s f (gF G 1 0 2) (fi) (pe) (re) y) → (65 - x).toNat < nF → PW l w M_X7_weighSets (d + 1) 2 [some (vR 7 (0)), some (vI (s)), some (vI (f)), some (vI (x)), none, none, none] [] (uA (uA (uA G 70 (0) (pe)) 71 (0) (re)) 69 (0) (fi)) P := by
    intro nF
    induction nF with
    | zero => intro _ _ _ _ _ _ hM; exact absurd hM (Nat.not_lt_zero _)
    | succ nF ih2 =>
      intro x pe re fi hx hO hM2
      refine pw_iload r_7_weighSets_2 rfl ?_
      refine pw_const r_7_weighSets_3 ?_
      refine pw_icmp_ge r_7_weighSets_5 (fun h05 => ?_) (fun h05 => ?_)
      · skip
        refine pw_vret r_7_weighSets_168 rfl (Nat.le_refl _) ⟨rfl, ?_⟩
        exact hP pe re fi (fun y y0 y1 => hO y y0 (by omega))
      · skip
        refine pw_iload r_7_weighSets_8 rfl ?_
        refine pw_const r_7_weighSets_9 ?_
        refine pw_aload r_7_weighSets_10 rfl ?_
        refine pw_getIv (v := gF G 7 (0) 2) r_7_weighSets_11 fs_7_2 (by decide) (by first | rfl | simp [gF_sF, gF_sA, gF_uA, gF_sD, gA_sF, gA_sA, gA_uA, gA_sD, gD_sF, gD_sA, gD_uA, gD_sD]) ?_
        refine pw_ishl r_7_weighSets_14 ?_
        refine pw_icmp_ge r_7_weighSets_15 (fun h15 => ?_) (fun h15 => ?_)
        · skip
          refine pw_vret r_7_weighSets_168 rfl (Nat.le_refl _) ⟨rfl, ?_⟩
          exact hP pe re fi (fun y y0 y1 => hO y y0 (by omega))
        · skip
          refine pw_iload r_7_weighSets_18 rfl ?_
          refine pw_istore (ls' := [some (vR 7 (0)), some (vI (s)), some (vI (f)), some (vI (x)), some (vI (s)), none, none]) r_7_weighSets_19 rfl rfl ?_
          refine pw_iload r_7_weighSets_21 rfl ?_
          refine pw_istore (ls' := [some (vR 7 (0)), some (vI (s)), some (vI (f)), some (vI (x)), some (vI (s)), some (vI (f)), none]) r_7_weighSets_22 rfl rfl ?_
          refine pw_aload r_7_weighSets_24 rfl ?_
          refine pw_getR r_7_weighSets_25 fs_7_8 (by decide) ?_
          refine pw_iload r_7_weighSets_28 rfl ?_
          refine pw_const r_7_weighSets_29 ?_
          refine pw_iast r_7_weighSets_30 sh70 (by omega) (by omega) ?_
          refine pw_aload r_7_weighSets_31 rfl ?_
          refine pw_getR r_7_weighSets_32 fs_7_9 (by decide) ?_
          refine pw_iload r_7_weighSets_35 rfl ?_
          refine pw_aload r_7_weighSets_36 rfl ?_
          refine pw_getR r_7_weighSets_37 fs_7_1 (by decide) ?_
          refine pw_getIv (v := gF G 1 (0) 2) r_7_weighSets_40 fs_1_2 (by decide) (by first | rfl | simp [gF_sF, gF_sA, gF_uA, gF_sD, gA_sF, gA_sA, gA_uA, gA_sD, gD_sF, gD_sA, gD_uA, gD_sD]) ?_
          refine pw_iast r_7_weighSets_43 sh71 (by omega) (by omega) ?_
          refine pw_const r_7_weighSets_44 ?_
          refine pw_istore (ls' := [some (vR 7 (0)), some (vI (s)), some (vI (f)), some (vI (x)), some (vI (s)), some (vI (f)), some (vI (0))]) r_7_weighSets_45 rfl rfl ?_
          have L47 : ∀ (nF : Nat) (i u v : Int) (pe1 re1 : Int → Int), (hi : 0 ≤ i ∧ i ≤ (gF G 7 0 2)) → (hu : u = s - sbI (gA G 66 0) x i) → (hv : v = f - sbI (gA G 67 0) x i) → (hpe : pe1 x = sbI (gA G 66 0) x i + sbI (gA G 67 0) x i) → (hre : re1 x = mxI (gA G 68 0) x (gF G 1 0 2) i) → (ho : ∀ y, y ≠ x → pe1 y = pe y ∧ re1 y = re y) → ((gF G 7 0 2) - i).toNat < nF → PW l w M_X7_weighSets (d + 1) 47 [some (vR 7 (0)), some (vI (s)), some (vI (f)), some (vI (x)), some (vI (u)), some (vI (v)), some (vI (i))] [] (uA (uA (uA G 70 (0) (pe1)) 71 (0) (re1)) 69 (0) (fi)) P := by
            intro nF
            induction nF with
            | zero => intro _ _ _ _ _ _ _ _ _ _ _ hM; exact absurd hM (Nat.not_lt_zero _)
            | succ nF ih47 =>
              intro i u v pe1 re1 hi hu hv hpe hre ho hM47
              have hbS := sb_in (w := (gA G 66 0)) (set := x) hi.1 (fun j a b => (hg j a (by omega)).1)
              have hbF := sb_in (w := (gA G 67 0)) (set := x) hi.1 (fun j a b => (hg j a (by omega)).2)
              refine pw_iload r_7_weighSets_47 rfl ?_
              refine pw_aload r_7_weighSets_49 rfl ?_
              refine pw_getIv (v := gF G 7 (0) 2) r_7_weighSets_50 fs_7_2 (by decide) (by first | rfl | simp [gF_sF, gF_sA, gF_uA, gF_sD, gA_sF, gA_sA, gA_uA, gA_sD, gD_sF, gD_sA, gD_uA, gD_sD]) ?_
              refine pw_icmp_ge r_7_weighSets_53 (fun h53 => ?_) (fun h53 => ?_)
              · skip
                have e9 : i = (gF G 7 0 2) := by omega
                rw [e9] at hu hv hpe hre
                refine pw_aload r_7_weighSets_141 rfl ?_
                refine pw_getR r_7_weighSets_142 fs_7_7 (by decide) ?_
                refine pw_iload r_7_weighSets_145 rfl ?_
                refine pw_iload r_7_weighSets_146 rfl ?_
                refine pw_if_lt r_7_weighSets_148 (fun h148 => ?_) (fun h148 => ?_)
                · skip
                  refine pw_const r_7_weighSets_160 ?_
                  refine pw_zast r_7_weighSets_161 sh69 (by omega) (by omega) (by omega) ?_
                  refine pw_iinc (b := 0) (ls' := [some (vR 7 (0)), some (vI (s)), some (vI (f)), some (vI ((x + 1))), some (vI (u)), some (vI (v)), some (vI (i))]) r_7_weighSets_162 rfl rfl (by omega) rfl ?_
                  refine pw_goto r_7_weighSets_165 ?_
                  refine pw_weakL (ls' := [some (vR 7 (0)), some (vI (s)), some (vI (f)), some (vI ((x + 1))), none, none, none]) (⟨rfl, ⟨rfl, ⟨rfl, ⟨rfl, trivial⟩⟩⟩⟩) ?_
                  refine pw_eqG (G' := uA (uA (uA G 70 (0) (pe1)) 71 (0) (re1)) 69 (0) ((upA fi x 0))) (by simp (disch := decide) only [sA_uA, sA_uA_ne]) ?_
                  exact ih2 ((x + 1)) (pe1) (re1) ((upA fi x 0)) (by first | assumption | omega) (by intro y y0 y1; by_cases z : y = x; (rw [z]; refine ⟨(upA_same _ _ _).trans (b2i_f (fun q => by omega)).symm, ?_, ?_⟩; (exact hpe); (exact hre)); (have h9 := hO y y0 (by omega); exact ⟨(upA_ne z).trans h9.1, ((ho y z).1).trans h9.2.1, ((ho y z).2).trans h9.2.2⟩)) (by omega)
                · skip
                  refine pw_iload r_7_weighSets_151 rfl ?_
                  refine pw_if_lt r_7_weighSets_153 (fun h153 => ?_) (fun h153 => ?_)
                  · skip
                    refine pw_const r_7_weighSets_160 ?_
                    refine pw_zast r_7_weighSets_161 sh69 (by omega) (by omega) (by omega) ?_
                    refine pw_iinc (b := 0) (ls' := [some (vR 7 (0)), some (vI (s)), some (vI (f)), some (vI ((x + 1))), some (vI (u)), some (vI (v)), some (vI (i))]) r_7_weighSets_162 rfl rfl (by omega) rfl ?_
                    refine pw_goto r_7_weighSets_165 ?_
                    refine pw_weakL (ls' := [some (vR 7 (0)), some (vI (s)), some (vI (f)), some (vI ((x + 1))), none, none, none]) (⟨rfl, ⟨rfl, ⟨rfl, ⟨rfl, trivial⟩⟩⟩⟩) ?_
                    refine pw_eqG (G' := uA (uA (uA G 70 (0) (pe1)) 71 (0) (re1)) 69 (0) ((upA fi x 0))) (by simp (disch := decide) only [sA_uA, sA_uA_ne]) ?_
                    exact ih2 ((x + 1)) (pe1) (re1) ((upA fi x 0)) (by first | assumption | omega) (by intro y y0 y1; by_cases z : y = x; (rw [z]; refine ⟨(upA_same _ _ _).trans (b2i_f (fun q => by omega)).symm, ?_, ?_⟩; (exact hpe); (exact hre)); (have h9 := hO y y0 (by omega); exact ⟨(upA_ne z).trans h9.1, ((ho y z).1).trans h9.2.1, ((ho y z).2).trans h9.2.2⟩)) (by omega)
                  · skip
                    refine pw_const r_7_weighSets_156 ?_
                    refine pw_goto r_7_weighSets_157 ?_
                    refine pw_zast r_7_weighSets_161 sh69 (by omega) (by omega) (by omega) ?_
                    refine pw_iinc (b := 0) (ls' := [some (vR 7 (0)), some (vI (s)), some (vI (f)), some (vI ((x + 1))), some (vI (u)), some (vI (v)), some (vI (i))]) r_7_weighSets_162 rfl rfl (by omega) rfl ?_
                    refine pw_goto r_7_weighSets_165 ?_
                    refine pw_weakL (ls' := [some (vR 7 (0)), some (vI (s)), some (vI (f)), some (vI ((x + 1))), none, none, none]) (⟨rfl, ⟨rfl, ⟨rfl, ⟨rfl, trivial⟩⟩⟩⟩) ?_
                    refine pw_eqG (G' := uA (uA (uA G 70 (0) (pe1)) 71 (0) (re1)) 69 (0) ((upA fi x 1))) (by simp (disch := decide) only [sA_uA, sA_uA_ne]) ?_
                    exact ih2 ((x + 1)) (pe1) (re1) ((upA fi x 1)) (by first | assumption | omega) (by intro y y0 y1; by_cases z : y = x; (rw [z]; refine ⟨(upA_same _ _ _).trans (b2i_t ⟨by omega, by omega⟩).symm, ?_, ?_⟩; (exact hpe); (exact hre)); (have h9 := hO y y0 (by omega); exact ⟨(upA_ne z).trans h9.1, ((ho y z).1).trans h9.2.1, ((ho y z).2).trans h9.2.2⟩)) (by omega)
              · skip
                refine pw_iload r_7_weighSets_56 rfl ?_
                refine pw_iload r_7_weighSets_57 rfl ?_
                refine pw_ishr r_7_weighSets_59 ?_
                refine pw_const r_7_weighSets_60 ?_
                refine pw_iand r_7_weighSets_61 ?_
                refine pw_if_eq r_7_weighSets_62 (fun h62 => ?_) (fun h62 => ?_)
                · skip
                  refine pw_iinc (b := 0) (ls' := [some (vR 7 (0)), some (vI (s)), some (vI (f)), some (vI (x)), some (vI (u)), some (vI (v)), some (vI ((i + 1)))]) r_7_weighSets_135 rfl rfl (by omega) rfl ?_
                  refine pw_goto r_7_weighSets_138 ?_
                  exact ih47 ((i + 1)) (u) (v) (pe1) (re1) (by first | assumption | omega) (by rw [sb_f hi.1 (fun q => q h62)]; exact hu) (by rw [sb_f hi.1 (fun q => q h62)]; exact hv) (by rw [sb_f hi.1 (fun q => q h62), sb_f hi.1 (fun q => q h62)]; exact hpe) (by rw [mx_f hi.1 (fun q => q h62)]; exact hre) (ho) (by omega)
                · skip
                  have hgi := hg i hi.1 (by omega)
                  refine pw_iload r_7_weighSets_65 rfl ?_
                  refine pw_aload r_7_weighSets_67 rfl ?_
                  refine pw_getR r_7_weighSets_68 fs_7_4 (by decide) ?_
                  refine pw_iload r_7_weighSets_71 rfl ?_
                  refine pw_ialdv (v := gA G 66 (0) (i)) r_7_weighSets_73 sh66 (by omega) (by omega) (by first | rfl | simp [gF_sF, gF_sA, gF_uA, gF_sD, gA_sF, gA_sA, gA_uA, gA_sD, gD_sF, gD_sA, gD_uA, gD_sD]) ?_
                  refine pw_isub r_7_weighSets_74 (by omega) ?_
                  refine pw_istore (ls' := [some (vR 7 (0)), some (vI (s)), some (vI (f)), some (vI (x)), some (vI ((u - (gA G 66 (0) (i))))), some (vI (v)), some (vI (i))]) r_7_weighSets_75 rfl rfl ?_
                  refine pw_iload r_7_weighSets_77 rfl ?_
                  refine pw_aload r_7_weighSets_79 rfl ?_
                  refine pw_getR r_7_weighSets_80 fs_7_5 (by decide) ?_
                  refine pw_iload r_7_weighSets_83 rfl ?_
                  refine pw_ialdv (v := gA G 67 (0) (i)) r_7_weighSets_85 sh67 (by omega) (by omega) (by first | rfl | simp [gF_sF, gF_sA, gF_uA, gF_sD, gA_sF, gA_sA, gA_uA, gA_sD, gD_sF, gD_sA, gD_uA, gD_sD]) ?_
                  refine pw_isub r_7_weighSets_86 (by omega) ?_
                  refine pw_istore (ls' := [some (vR 7 (0)), some (vI (s)), some (vI (f)), some (vI (x)), some (vI ((u - (gA G 66 (0) (i))))), some (vI ((v - (gA G 67 (0) (i))))), some (vI (i))]) r_7_weighSets_87 rfl rfl ?_
                  refine pw_aload r_7_weighSets_89 rfl ?_
                  refine pw_getR r_7_weighSets_90 fs_7_8 (by decide) ?_
                  refine pw_iload r_7_weighSets_93 rfl ?_
                  refine pw_dup2 r_7_weighSets_94 rfl rfl ?_
                  refine pw_ialdv (v := (pe1) (x)) r_7_weighSets_95 sh70 (by omega) (by omega) (by first | rfl | simp [gF_sF, gF_sA, gF_uA, gF_sD, gA_sF, gA_sA, gA_uA, gA_sD, gD_sF, gD_sA, gD_uA, gD_sD]) ?_
                  refine pw_aload r_7_weighSets_96 rfl ?_
                  refine pw_getR r_7_weighSets_97 fs_7_4 (by decide) ?_
                  refine pw_iload r_7_weighSets_100 rfl ?_
                  refine pw_ialdv (v := gA G 66 (0) (i)) r_7_weighSets_102 sh66 (by omega) (by omega) (by first | rfl | simp [gF_sF, gF_sA, gF_uA, gF_sD, gA_sF, gA_sA, gA_uA, gA_sD, gD_sF, gD_sA, gD_uA, gD_sD]) ?_
                  refine pw_aload r_7_weighSets_103 rfl ?_
                  refine pw_getR r_7_weighSets_104 fs_7_5 (by decide) ?_
                  refine pw_iload r_7_weighSets_107 rfl ?_
                  refine pw_ialdv (v := gA G 67 (0) (i)) r_7_weighSets_109 sh67 (by omega) (by omega) (by first | rfl | simp [gF_sF, gF_sA, gF_uA, gF_sD, gA_sF, gA_sA, gA_uA, gA_sD, gD_sF, gD_sA, gD_uA, gD_sD]) ?_
                  refine pw_iadd r_7_weighSets_110 (by omega) ?_
                  refine pw_iadd r_7_weighSets_111 (by omega) ?_
                  refine pw_iast r_7_weighSets_112 sh70 (by omega) (by omega) ?_
                  refine pw_aload r_7_weighSets_113 rfl ?_
                  refine pw_getR r_7_weighSets_114 fs_7_9 (by decide) ?_
                  refine pw_iload r_7_weighSets_117 rfl ?_
                  refine pw_aload r_7_weighSets_118 rfl ?_
                  refine pw_getR r_7_weighSets_119 fs_7_9 (by decide) ?_
                  refine pw_iload r_7_weighSets_122 rfl ?_
                  refine pw_ialdv (v := (re1) (x)) r_7_weighSets_123 sh71 (by omega) (by omega) (by first | rfl | simp [gF_sF, gF_sA, gF_uA, gF_sD, gA_sF, gA_sA, gA_uA, gA_sD, gD_sF, gD_sA, gD_uA, gD_sD]) ?_
                  refine pw_aload r_7_weighSets_124 rfl ?_
                  refine pw_getR r_7_weighSets_125 fs_7_6 (by decide) ?_
                  refine pw_iload r_7_weighSets_128 rfl ?_
                  refine pw_ialdv (v := gA G 68 (0) (i)) r_7_weighSets_130 sh68 (by omega) (by omega) (by first | rfl | simp [gF_sF, gF_sA, gF_uA, gF_sD, gA_sF, gA_sA, gA_uA, gA_sD, gD_sF, gD_sA, gD_uA, gD_sD]) ?_
                  refine pw_mmax r_7_weighSets_131 rfl (Nat.le_of_ble_eq_true rfl) (Nat.le_refl _) ?_
                  refine pw_iast r_7_weighSets_134 sh71 (by omega) (by omega) ?_
                  refine pw_iinc (b := 0) (ls' := [some (vR 7 (0)), some (vI (s)), some (vI (f)), some (vI (x)), some (vI ((u - (gA G 66 (0) (i))))), some (vI ((v - (gA G 67 (0) (i))))), some (vI ((i + 1)))]) r_7_weighSets_135 rfl rfl (by omega) rfl ?_
                  refine pw_goto r_7_weighSets_138 ?_
                  refine pw_eqG (G' := uA (uA (uA G 70 (0) ((upA pe1 x (((pe1) (x)) + ((gA G 66 (0) (i)) + (gA G 67 (0) (i))))))) 71 (0) ((upA re1 x (max ((re1) (x)) (gA G 68 (0) (i)))))) 69 (0) (fi)) (by simp (disch := decide) only [sA_uA, sA_uA_ne]) ?_
                  exact ih47 ((i + 1)) ((u - (gA G 66 (0) (i)))) ((v - (gA G 67 (0) (i)))) ((upA pe1 x (((pe1) (x)) + ((gA G 66 (0) (i)) + (gA G 67 (0) (i)))))) ((upA re1 x (max ((re1) (x)) (gA G 68 (0) (i))))) (by first | assumption | omega) (by rw [sb_t hi.1 h62]; omega) (by rw [sb_t hi.1 h62]; omega) (by rw [upA_same, hpe, sb_t hi.1 h62, sb_t hi.1 h62]; omega) (by rw [upA_same, hre, mx_t hi.1 h62]) (fun y z => ⟨(upA_ne z).trans (ho y z).1, (upA_ne z).trans (ho y z).2⟩) (by omega)
          refine pw_eqG (G' := uA (uA (uA G 70 (0) ((upA pe x 0))) 71 (0) ((upA re x (gF G 1 (0) 2)))) 69 (0) (fi)) (by simp (disch := decide) only [sA_uA, sA_uA_ne]) ?_
          exact L47 _ (0) (s) (f) ((upA pe x 0)) ((upA re x (gF G 1 (0) 2))) (by first | assumption | omega) (by rw [sb_0]; omega) (by rw [sb_0]; omega) (by rw [upA_same, sb_0, sb_0]; rfl) (by rw [upA_same, mx_0]) (fun y z => ⟨upA_ne z, upA_ne z⟩) (Nat.lt_succ_self _)
  refine pw_eqG (G' := uA (uA (uA G 70 (0) ((gA G 70 0))) 71 (0) ((gA G 71 0))) 69 (0) ((gA G 69 0))) (by rw [uA_own, uA_own, uA_own]) ?_
  exact L2 _ (1) ((gA G 70 0)) ((gA G 71 0)) ((gA G 69 0)) (by first | assumption | omega) (fun y y0 y1 => by omega) (Nat.lt_succ_self _)

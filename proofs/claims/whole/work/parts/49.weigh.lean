/-- i is in the set -/
def bt (set i : Int) : Prop := pAnd (pShr set i) 1 ≠ 0
noncomputable def smN (w : Int → Int) (set : Int) : Nat → Int
  | 0 => 0
  | n + 1 => if pAnd (pShr set n) 1 ≠ 0 then wr (smN w set n + w n) else smN w set n
noncomputable def smF (w : Int → Int) (set n : Int) : Int := smN w set n.toNat
theorem sm_t {w : Int → Int} {set n : Int} (h : 0 ≤ n) (hb : bt set n) : smF w set (n + 1) = wr (smF w set n + w n) := by
  unfold smF
  rw [show (n + 1).toNat = n.toNat + 1 by omega, smN, Int.toNat_of_nonneg h]
  exact if_pos hb
theorem sm_f {w : Int → Int} {set n : Int} (h : 0 ≤ n) (hb : ¬ bt set n) : smF w set (n + 1) = smF w set n := by
  unfold smF
  rw [show (n + 1).toNat = n.toNat + 1 by omega, smN, Int.toNat_of_nonneg h]
  exact if_neg hb
theorem sm_congr {w u : Int → Int} {set n : Int} (hn : 0 ≤ n) (h : ∀ i, 0 ≤ i → i < n → bt set i → w i = u i) : smF w set n = smF u set n := by
  refine nat_ind (p := fun n => (∀ i, 0 ≤ i → i < n → bt set i → w i = u i) → smF w set n = smF u set n) (fun _ => rfl) (fun n hn ih h => ?_) n hn h
  have h1 := ih (fun i a b => h i a (by omega))
  by_cases e : bt set n
  · rw [sm_t hn e, sm_t hn e, h1, h n hn (by omega) e]
  · rw [sm_f hn e, sm_f hn e, h1]
theorem b2i_inj {p q : Prop} (h : b2i p = b2i q) : p ↔ q := by
  by_cases a : p
  · by_cases c : q
    · exact ⟨fun _ => c, fun _ => a⟩
    · rw [b2i_t a, b2i_f c] at h; omega
  · by_cases c : q
    · rw [b2i_f a, b2i_t c] at h; omega
    · exact ⟨fun z => absurd z a, fun z => absurd z c⟩
def upW (f : Int → Int → Int) (la i v : Int) : Int → Int → Int := fun r j => if r = la ∧ j = i then v else f r j
theorem upW_same (f : Int → Int → Int) (la i v : Int) : upW f la i v la i = v := if_pos ⟨rfl, rfl⟩
theorem upW_ne {f : Int → Int → Int} {la i v r j : Int} (h : ¬ (r = la ∧ j = i)) : upW f la i v r j = f r j := if_neg h
theorem sA_uK (G : PH) (c : Nat) (r i v : Int) (f : Int → Int → Int) : sA (uK G c f) c r i v = uK G c (upW f r i v) := by
  refine Prod.ext rfl (Prod.ext (funext fun c' => funext fun r' => funext fun i' => ?_) rfl)
  show (if c' = c ∧ r' = r ∧ i' = i then v else (if c' = c then f else G.2.1 c') r' i') = (if c' = c then upW f r i v else G.2.1 c') r' i'
  by_cases z : c' = c
  · rw [if_pos z, if_pos z]
    by_cases y : r' = r ∧ i' = i
    · rw [if_pos ⟨z, y⟩]; exact (if_pos y).symm
    · rw [if_neg (fun x => y x.2)]; exact (if_neg y).symm
  · rw [if_neg z, if_neg z, if_neg (fun x => z x.1)]
theorem sA_uK_ne (G : PH) (c c1 : Nat) (r i v : Int) (f : Int → Int → Int) (h : c ≠ c1) : sA (uK G c f) c1 r i v = uK (sA G c1 r i v) c f := by
  refine Prod.ext rfl (Prod.ext (funext fun c' => funext fun r' => funext fun i' => ?_) rfl)
  show (if c' = c1 ∧ r' = r ∧ i' = i then v else (if c' = c then f else G.2.1 c') r' i') = (if c' = c then f else fun r' i' => if c' = c1 ∧ r' = r ∧ i' = i then v else G.2.1 c' r' i') r' i'
  by_cases z : c' = c
  · rw [if_pos z, if_pos z, if_neg (fun x => h (z.symm.trans x.1))]
  · rw [if_neg z, if_neg z]
theorem uA_uK (G : PH) (c c1 : Nat) (r : Int) (f : Int → Int → Int) (g : Int → Int) (h : c ≠ c1) : uA (uK G c f) c1 r g = uK (uA G c1 r g) c f := by
  refine Prod.ext rfl (Prod.ext (funext fun c' => funext fun r' => ?_) rfl)
  show (if c' = c1 ∧ r' = r then g else (if c' = c then f else G.2.1 c') r') = (if c' = c then f else fun r' => if c' = c1 ∧ r' = r then g else G.2.1 c' r') r'
  by_cases z : c' = c
  · rw [if_pos z, if_pos z, if_neg (fun x => h (z.symm.trans x.1))]
  · rw [if_neg z, if_neg z]
abbrev WQ : Type := RQ × (Int → Int) × (Int → Int) × (Int → Int → Int) × (Int → Int → Int)
/-- after some weighing: the reader, who is graded, the doctors, the bars, the worths -/
def wghC (G : PH) (g : WQ) : PH := uK (uK (uA (uA (rstC G g.1) 100 0 g.2.1) 101 0 g.2.2.1) 97 g.2.2.2.1) 99 g.2.2.2.2
def wghQ (G : PH) : WQ := (rstQ G, gA G 100 0, gA G 101 0, gA G 97, gA G 99)
theorem wgh_self (G : PH) : wghC G (wghQ G) = G := by
  show uK (uK (uA (uA (rstC G (rstQ G)) 100 0 (gA G 100 0)) 101 0 (gA G 101 0)) 97 (gA G 97)) 99 (gA G 99) = G
  rw [rstC_self, uA_own, uA_own]
  exact (congrArg (fun z => uK z 99 (gA G 99)) (uK_self G 97)).trans (uK_self G 99)
theorem rst_uK (G : PH) (c : Nat) (f : Int → Int → Int) (q : RQ) (h : c ≠ 46) : rstC (uK G c f) q = uK (rstC G q) c f := by
  unfold rstC
  rw [uA_uK _ _ _ _ _ _ h]
  rfl
theorem rst_uA (G : PH) (c : Nat) (r : Int) (f : Int → Int) (q : RQ) (h : c ≠ 46) : rstC (uA G c r f) q = uA (rstC G q) c r f := by
  unfold rstC
  rw [uA_comm _ _ _ _ _ _ _ h]
  rfl
theorem wgh_rst (G : PH) (g : WQ) (q : RQ) : rstC (wghC G g) q = wghC G (q, g.2) := by
  unfold wghC
  rw [rst_uK _ _ _ _ (by decide), rst_uK _ _ _ _ (by decide), rst_uA _ _ _ _ _ (by decide), rst_uA _ _ _ _ _ (by decide), rstC_rst]
theorem wgh_A97 (G : PH) (g : WQ) (la i v : Int) : sA (wghC G g) 97 la i v = wghC G (g.1, g.2.1, g.2.2.1, upW g.2.2.2.1 la i v, g.2.2.2.2) := by
  unfold wghC
  rw [sA_uK_ne _ _ _ _ _ _ _ (by decide), sA_uK]
theorem wgh_A99 (G : PH) (g : WQ) (la i v : Int) : sA (wghC G g) 99 la i v = wghC G (g.1, g.2.1, g.2.2.1, g.2.2.2.1, upW g.2.2.2.2 la i v) := by
  unfold wghC
  rw [sA_uK]
theorem wgh_gr (G : PH) (g : WQ) (i v : Int) : sA (wghC G g) 100 0 i v = wghC G (g.1, upA g.2.1 i v, g.2.2) := by
  unfold wghC
  rw [sA_uK_ne _ _ _ _ _ _ _ (by decide), sA_uK_ne _ _ _ _ _ _ _ (by decide), sA_uA_ne _ _ _ _ _ _ _ _ (by decide), sA_uA]
theorem wgh_dr (G : PH) (g : WQ) (i v : Int) : sA (wghC G g) 101 0 i v = wghC G (g.1, g.2.1, upA g.2.2.1 i v, g.2.2.2) := by
  unfold wghC
  rw [sA_uK_ne _ _ _ _ _ _ _ (by decide), sA_uK_ne _ _ _ _ _ _ _ (by decide), sA_uA]
def wOk (st : Int → Int) (ST : Int → Prop) (W0 W1 : Int → Int) (L bars wor : Int → Int → Int) (la i : Int) : Prop := (st (L la i) ≠ 0 ∧ bars la i = 1) ∨ (st (L la i) = 0 ∧ ((ST (L la i) ∧ bars la i = 2) ∨ (¬ ST (L la i) ∧ bars la i = 0)) ∧ wor (2 * la) i = W0 (L la i) ∧ wor (2 * la + 1) i = W1 (L la i))
theorem wOk_old1 {st : Int → Int} {ST : Int → Prop} {W0 W1 : Int → Int} {L b w : Int → Int → Int} {la i l1 i1 v : Int} (h : ¬ (la = l1 ∧ i = i1)) (hw : wOk st ST W0 W1 L b w la i) : wOk st ST W0 W1 L (upW b l1 i1 v) w la i := by
  unfold wOk at hw ⊢
  rw [upW_ne h]
  exact hw
theorem wOk_old2 {st : Int → Int} {ST : Int → Prop} {W0 W1 : Int → Int} {L b w : Int → Int → Int} {la i l1 i1 v u0 u1 : Int} (h : ¬ (la = l1 ∧ i = i1)) (hw : wOk st ST W0 W1 L b w la i) : wOk st ST W0 W1 L (upW b l1 i1 v) (upW (upW w (2 * l1) i1 u0) (2 * l1 + 1) i1 u1) la i := by
  unfold wOk at hw ⊢
  rw [upW_ne h, upW_ne (fun z => by omega), upW_ne (fun z => h (by omega)), upW_ne (fun z => h (by omega)), upW_ne (fun z => by omega)]
  exact hw
theorem wOk_new1 {st : Int → Int} {ST : Int → Prop} {W0 W1 : Int → Int} {L b w : Int → Int → Int} {la i : Int} (h : st (L la i) ≠ 0) : wOk st ST W0 W1 L (upW b la i 1) w la i := Or.inl ⟨h, upW_same _ _ _ _⟩
theorem wOk_new2 {st : Int → Int} {ST : Int → Prop} {W0 W1 : Int → Int} {L b w : Int → Int → Int} {la i v : Int} (h : st (L la i) = 0) (hv : (ST (L la i) ∧ v = 2) ∨ (¬ ST (L la i) ∧ v = 0)) : wOk st ST W0 W1 L (upW b la i v) (upW (upW w (2 * la) i (W0 (L la i))) (2 * la + 1) i (W1 (L la i))) la i :=
  Or.inr ⟨h, by rw [upW_same]; exact hv, by rw [upW_ne (fun z => by omega), upW_same], upW_same _ _ _ _⟩
noncomputable def cgC (G : PH) (c : Int) : Int := cnt (fun i => ((gF G 3 (i) 8) = 0 ∧ (gF G 3 (i) 10) = c) ∧ 0 < (gF G 3 (i) 6)) (gF G 1 0 1)

theorem wd_f10_77 : Cond.fieldLink "NameRolls$Trade" 77 "NameRolls$Crowd" "day" "I" ∈ UW := UW1_at 75 (by decide +kernel) rfl
theorem wd_f10_27 : Cond.fieldLink "NameRolls$Trade" 27 "NameRolls$Trade" "bars" "[[I" ∈ UW := UW2_at 80 (by decide +kernel) rfl
theorem wd_f10_51 : Cond.fieldLink "NameRolls$Trade" 51 "NameRolls$Trade" "texts" "LNameRolls$Texts;" ∈ UW := UW2_at 75 (by decide +kernel) rfl
theorem wd_m10_88 : Cond.methodLink "NameRolls$Trade" 88 M_X8_allowStay.1 ∈ UW := UW5_at 216 (by decide +kernel) rfl
theorem wd_f10_30 : Cond.fieldLink "NameRolls$Trade" 30 "NameRolls$Trade" "worths" "[[I" ∈ UW := UW2_at 81 (by decide +kernel) rfl
theorem wd_m10_94 : Cond.methodLink "NameRolls$Trade" 94 M_X8_rate.1 ∈ UW := UW5_at 217 (by decide +kernel) rfl
theorem wd_f10_35 : Cond.fieldLink "NameRolls$Trade" 35 "NameRolls$Trade" "graded" "[I" ∈ UW := UW2_at 82 (by decide +kernel) rfl
theorem wd_m10_80 : Cond.methodLink "NameRolls$Trade" 80 M_X1_countGraded.1 ∈ UW := UW5_at 211 (by decide +kernel) rfl
theorem wd_s1_countGraded : Cond.selects M_X1_countGraded.1.cls M_X1_countGraded.1 M_X1_countGraded.1 ∈ UW := UW5_at 213 (by decide +kernel) rfl
theorem wd_f10_38 : Cond.fieldLink "NameRolls$Trade" 38 "NameRolls$Trade" "doctors" "[I" ∈ UW := UW2_at 83 (by decide +kernel) rfl
theorem wd_m10_84 : Cond.methodLink "NameRolls$Trade" 84 M_X1_countIn.1 ∈ UW := UW5_at 215 (by decide +kernel) rfl
theorem wd_m10_118 : Cond.methodLink "NameRolls$Trade" 118 M_X10_isIn.1 ∈ UW := UW5_at 222 (by decide +kernel) rfl
theorem wd_f10_121 : Cond.fieldLink "NameRolls$Trade" 121 "NameRolls$Person" "with" "I" ∈ UW := UW3_at 163 (by decide +kernel) rfl
theorem wd_m10_133 : Cond.methodLink "NameRolls$Trade" 133 M_X10_doctorsWanted.1 ∈ UW := UW5_at 238 (by decide +kernel) rfl
theorem wd_s10_doctorsWanted : Cond.selects M_X10_doctorsWanted.1.cls M_X10_doctorsWanted.1 M_X10_doctorsWanted.1 ∈ UW := UWp_at 39 (by decide +kernel) rfl
theorem wd_m10_136 : Cond.methodLink "NameRolls$Trade" 136 Lib.Math.min.name ∈ UW := UW6_at 2 (by decide +kernel) rfl
theorem wd_m10_124 : Cond.methodLink "NameRolls$Trade" 124 M_X3_isIn.1 ∈ UW := UW5_at 237 (by decide +kernel) rfl
theorem wd_f10_127 : Cond.fieldLink "NameRolls$Trade" 127 "NameRolls$Person" "grade" "I" ∈ UW := UW3_at 171 (by decide +kernel) rfl
theorem wd_f10_130 : Cond.fieldLink "NameRolls$Trade" 130 "NameRolls$Person" "kind" "I" ∈ UW := UW3_at 152 (by decide +kernel) rfl
theorem r_10_weigh_0 : RA M_X10_weigh 0 0 1 := Or.inl ⟨0, by decide +kernel, rfl, rfl⟩
theorem r_10_weigh_1 : RG M_X10_weigh 1 10 0 4 := ⟨47, _, by decide +kernel, rfl, by decide, wd_f10_47, rfl, rfl⟩
theorem r_10_weigh_4 : RG M_X10_weigh 4 1 2 7 := ⟨77, _, by decide +kernel, rfl, by decide, wd_f10_77, rfl, rfl⟩
theorem r_10_weigh_7 : RS M_X10_weigh 7 1 8 := ⟨by decide, Or.inl ⟨1, by decide +kernel, rfl, rfl⟩⟩
theorem r_10_weigh_8 : RC M_X10_weigh 8 0 9 := ⟨⟨by decide, by decide⟩, Or.inl ⟨by decide +kernel, rfl⟩⟩
theorem r_10_weigh_9 : RS M_X10_weigh 9 2 10 := ⟨by decide, Or.inl ⟨2, by decide +kernel, rfl, rfl⟩⟩
theorem r_10_weigh_10 : RL M_X10_weigh 10 2 11 := Or.inl ⟨2, by decide +kernel, rfl, rfl⟩
theorem r_10_weigh_11 : RC M_X10_weigh 11 16 13 := ⟨⟨by decide, by decide⟩, Or.inr (Or.inl ⟨by decide +kernel, by decide, rfl⟩)⟩
theorem r_10_weigh_13 : RB M_X10_weigh 13 (.if_icmp .ge) 51 16 := ⟨38, by decide +kernel, rfl, rfl⟩
theorem r_10_weigh_51 : RC M_X10_weigh 51 0 52 := ⟨⟨by decide, by decide⟩, Or.inl ⟨by decide +kernel, rfl⟩⟩
theorem r_10_weigh_52 : RS M_X10_weigh 52 2 53 := ⟨by decide, Or.inl ⟨2, by decide +kernel, rfl, rfl⟩⟩
theorem r_10_weigh_53 : RL M_X10_weigh 53 2 54 := Or.inl ⟨2, by decide +kernel, rfl, rfl⟩
theorem r_10_weigh_54 : RC M_X10_weigh 54 2 55 := ⟨⟨by decide, by decide⟩, Or.inl ⟨by decide +kernel, rfl⟩⟩
theorem r_10_weigh_55 : RB M_X10_weigh 55 (.if_icmp .ge) 197 58 := ⟨142, by decide +kernel, rfl, rfl⟩
theorem r_10_weigh_197 : RW M_X10_weigh 197 .return_ 198 1 := ⟨by decide +kernel, rfl⟩
theorem r_10_weigh_58 : RC M_X10_weigh 58 0 59 := ⟨⟨by decide, by decide⟩, Or.inl ⟨by decide +kernel, rfl⟩⟩
theorem r_10_weigh_59 : RS M_X10_weigh 59 3 60 := ⟨by decide, Or.inl ⟨3, by decide +kernel, rfl, rfl⟩⟩
theorem r_10_weigh_60 : RL M_X10_weigh 60 3 61 := Or.inl ⟨3, by decide +kernel, rfl, rfl⟩
theorem r_10_weigh_61 : RA M_X10_weigh 61 0 62 := Or.inl ⟨0, by decide +kernel, rfl, rfl⟩
theorem r_10_weigh_62 : RG M_X10_weigh 62 10 3 65 := ⟨16, _, by decide +kernel, rfl, by decide, wd_f10_16, rfl, rfl⟩
theorem r_10_weigh_65 : RL M_X10_weigh 65 2 66 := Or.inl ⟨2, by decide +kernel, rfl, rfl⟩
theorem r_10_weigh_66 : RW M_X10_weigh 66 .iaload 67 1 := ⟨by decide +kernel, rfl⟩
theorem r_10_weigh_67 : RB M_X10_weigh 67 (.if_icmp .ge) 191 70 := ⟨124, by decide +kernel, rfl, rfl⟩
theorem r_10_weigh_191 : RI M_X10_weigh 191 2 1 194 := ⟨by decide, by decide +kernel, rfl⟩
theorem r_10_weigh_194 : RB M_X10_weigh 194 .goto 53 197 := ⟨(-141), by decide +kernel, rfl, rfl⟩
theorem r_10_weigh_70 : RA M_X10_weigh 70 0 71 := Or.inl ⟨0, by decide +kernel, rfl, rfl⟩
theorem r_10_weigh_71 : RG M_X10_weigh 71 10 0 74 := ⟨47, _, by decide +kernel, rfl, by decide, wd_f10_47, rfl, rfl⟩
theorem r_10_weigh_74 : RA M_X10_weigh 74 0 75 := Or.inl ⟨0, by decide +kernel, rfl, rfl⟩
theorem r_10_weigh_75 : RG M_X10_weigh 75 10 2 78 := ⟨13, _, by decide +kernel, rfl, by decide, wd_f10_13, rfl, rfl⟩
theorem r_10_weigh_78 : RL M_X10_weigh 78 2 79 := Or.inl ⟨2, by decide +kernel, rfl, rfl⟩
theorem r_10_weigh_79 : RW M_X10_weigh 79 .aaload 80 1 := ⟨by decide +kernel, rfl⟩
theorem r_10_weigh_80 : RL M_X10_weigh 80 3 81 := Or.inl ⟨3, by decide +kernel, rfl, rfl⟩
theorem r_10_weigh_81 : RW M_X10_weigh 81 .iaload 82 1 := ⟨by decide +kernel, rfl⟩
theorem r_10_weigh_82 : RKv M_X10_weigh M_X1_get 82 1 1 85 := ⟨55, by decide +kernel, wd_m10_55, ok_M_X1_get, wd_s1_get, rfl⟩
theorem r_10_weigh_85 : RT M_X10_weigh 85 4 87 := ⟨by decide, Or.inr ⟨by decide +kernel, rfl⟩⟩
theorem r_10_weigh_87 : RA M_X10_weigh 87 4 89 := Or.inr ⟨by decide +kernel, rfl⟩
theorem r_10_weigh_89 : RB M_X10_weigh 89 .ifnull 100 92 := ⟨11, by decide +kernel, rfl, rfl⟩
theorem r_10_weigh_92 : RA M_X10_weigh 92 4 94 := Or.inr ⟨by decide +kernel, rfl⟩
theorem r_10_weigh_94 : RG M_X10_weigh 94 3 8 97 := ⟨70, _, by decide +kernel, rfl, by decide, wd_f10_70, rfl, rfl⟩
theorem r_10_weigh_97 : RB M_X10_weigh 97 (.ifCond .eq) 112 100 := ⟨15, by decide +kernel, rfl, rfl⟩
theorem r_10_weigh_112 : RA M_X10_weigh 112 0 113 := Or.inl ⟨0, by decide +kernel, rfl, rfl⟩
theorem r_10_weigh_113 : RG M_X10_weigh 113 10 6 116 := ⟨27, _, by decide +kernel, rfl, by decide, wd_f10_27, rfl, rfl⟩
theorem r_10_weigh_116 : RL M_X10_weigh 116 2 117 := Or.inl ⟨2, by decide +kernel, rfl, rfl⟩
theorem r_10_weigh_117 : RW M_X10_weigh 117 .aaload 118 1 := ⟨by decide +kernel, rfl⟩
theorem r_10_weigh_118 : RL M_X10_weigh 118 3 119 := Or.inl ⟨3, by decide +kernel, rfl, rfl⟩
theorem r_10_weigh_119 : RA M_X10_weigh 119 0 120 := Or.inl ⟨0, by decide +kernel, rfl, rfl⟩
theorem r_10_weigh_120 : RG M_X10_weigh 120 10 1 123 := ⟨51, _, by decide +kernel, rfl, by decide, wd_f10_51, rfl, rfl⟩
theorem r_10_weigh_123 : RA M_X10_weigh 123 4 125 := Or.inr ⟨by decide +kernel, rfl⟩
theorem r_10_weigh_125 : RL M_X10_weigh 125 1 126 := Or.inl ⟨1, by decide +kernel, rfl, rfl⟩
theorem r_10_weigh_126 : RL M_X10_weigh 126 1 127 := Or.inl ⟨1, by decide +kernel, rfl, rfl⟩
theorem r_10_weigh_127 : RKv M_X10_weigh M_X8_allowStay 127 3 8 130 := ⟨88, by decide +kernel, wd_m10_88, ok_M_X8_allowStay, wd_s8_allowStay, rfl⟩
theorem r_10_weigh_130 : RB M_X10_weigh 130 (.ifCond .eq) 137 133 := ⟨7, by decide +kernel, rfl, rfl⟩
theorem r_10_weigh_137 : RC M_X10_weigh 137 0 138 := ⟨⟨by decide, by decide⟩, Or.inl ⟨by decide +kernel, rfl⟩⟩
theorem r_10_weigh_138 : RW M_X10_weigh 138 .iastore 139 1 := ⟨by decide +kernel, rfl⟩
theorem r_10_weigh_139 : RA M_X10_weigh 139 0 140 := Or.inl ⟨0, by decide +kernel, rfl, rfl⟩
theorem r_10_weigh_140 : RG M_X10_weigh 140 10 7 143 := ⟨30, _, by decide +kernel, rfl, by decide, wd_f10_30, rfl, rfl⟩
theorem r_10_weigh_143 : RC M_X10_weigh 143 2 144 := ⟨⟨by decide, by decide⟩, Or.inl ⟨by decide +kernel, rfl⟩⟩
theorem r_10_weigh_144 : RL M_X10_weigh 144 2 145 := Or.inl ⟨2, by decide +kernel, rfl, rfl⟩
theorem r_10_weigh_145 : RW M_X10_weigh 145 .imul 146 1 := ⟨by decide +kernel, rfl⟩
theorem r_10_weigh_146 : RW M_X10_weigh 146 .aaload 147 1 := ⟨by decide +kernel, rfl⟩
theorem r_10_weigh_147 : RL M_X10_weigh 147 3 148 := Or.inl ⟨3, by decide +kernel, rfl, rfl⟩
theorem r_10_weigh_148 : RA M_X10_weigh 148 0 149 := Or.inl ⟨0, by decide +kernel, rfl, rfl⟩
theorem r_10_weigh_149 : RG M_X10_weigh 149 10 1 152 := ⟨51, _, by decide +kernel, rfl, by decide, wd_f10_51, rfl, rfl⟩
theorem r_10_weigh_152 : RA M_X10_weigh 152 4 154 := Or.inr ⟨by decide +kernel, rfl⟩
theorem r_10_weigh_154 : RC M_X10_weigh 154 0 155 := ⟨⟨by decide, by decide⟩, Or.inl ⟨by decide +kernel, rfl⟩⟩
theorem r_10_weigh_155 : RL M_X10_weigh 155 1 156 := Or.inl ⟨1, by decide +kernel, rfl, rfl⟩
theorem r_10_weigh_156 : RL M_X10_weigh 156 1 157 := Or.inl ⟨1, by decide +kernel, rfl, rfl⟩
theorem r_10_weigh_157 : RKv M_X10_weigh M_X8_rate 157 4 8 160 := ⟨94, by decide +kernel, wd_m10_94, ok_M_X8_rate, wd_s8_rate, rfl⟩
theorem r_10_weigh_160 : RW M_X10_weigh 160 .iastore 161 1 := ⟨by decide +kernel, rfl⟩
theorem r_10_weigh_161 : RA M_X10_weigh 161 0 162 := Or.inl ⟨0, by decide +kernel, rfl, rfl⟩
theorem r_10_weigh_162 : RG M_X10_weigh 162 10 7 165 := ⟨30, _, by decide +kernel, rfl, by decide, wd_f10_30, rfl, rfl⟩
theorem r_10_weigh_165 : RC M_X10_weigh 165 2 166 := ⟨⟨by decide, by decide⟩, Or.inl ⟨by decide +kernel, rfl⟩⟩
theorem r_10_weigh_166 : RL M_X10_weigh 166 2 167 := Or.inl ⟨2, by decide +kernel, rfl, rfl⟩
theorem r_10_weigh_167 : RW M_X10_weigh 167 .imul 168 1 := ⟨by decide +kernel, rfl⟩
theorem r_10_weigh_168 : RC M_X10_weigh 168 1 169 := ⟨⟨by decide, by decide⟩, Or.inl ⟨by decide +kernel, rfl⟩⟩
theorem r_10_weigh_169 : RW M_X10_weigh 169 .iadd 170 1 := ⟨by decide +kernel, rfl⟩
theorem r_10_weigh_170 : RW M_X10_weigh 170 .aaload 171 1 := ⟨by decide +kernel, rfl⟩
theorem r_10_weigh_171 : RL M_X10_weigh 171 3 172 := Or.inl ⟨3, by decide +kernel, rfl, rfl⟩
theorem r_10_weigh_172 : RA M_X10_weigh 172 0 173 := Or.inl ⟨0, by decide +kernel, rfl, rfl⟩
theorem r_10_weigh_173 : RG M_X10_weigh 173 10 1 176 := ⟨51, _, by decide +kernel, rfl, by decide, wd_f10_51, rfl, rfl⟩
theorem r_10_weigh_176 : RA M_X10_weigh 176 4 178 := Or.inr ⟨by decide +kernel, rfl⟩
theorem r_10_weigh_178 : RC M_X10_weigh 178 1 179 := ⟨⟨by decide, by decide⟩, Or.inl ⟨by decide +kernel, rfl⟩⟩
theorem r_10_weigh_179 : RL M_X10_weigh 179 1 180 := Or.inl ⟨1, by decide +kernel, rfl, rfl⟩
theorem r_10_weigh_180 : RL M_X10_weigh 180 1 181 := Or.inl ⟨1, by decide +kernel, rfl, rfl⟩
theorem r_10_weigh_181 : RKv M_X10_weigh M_X8_rate 181 4 8 184 := ⟨94, by decide +kernel, wd_m10_94, ok_M_X8_rate, wd_s8_rate, rfl⟩
theorem r_10_weigh_184 : RW M_X10_weigh 184 .iastore 185 1 := ⟨by decide +kernel, rfl⟩
theorem r_10_weigh_185 : RI M_X10_weigh 185 3 1 188 := ⟨by decide, by decide +kernel, rfl⟩
theorem r_10_weigh_188 : RB M_X10_weigh 188 .goto 60 191 := ⟨(-128), by decide +kernel, rfl, rfl⟩
theorem r_10_weigh_133 : RC M_X10_weigh 133 2 134 := ⟨⟨by decide, by decide⟩, Or.inl ⟨by decide +kernel, rfl⟩⟩
theorem r_10_weigh_134 : RB M_X10_weigh 134 .goto 138 137 := ⟨4, by decide +kernel, rfl, rfl⟩
theorem r_10_weigh_100 : RA M_X10_weigh 100 0 101 := Or.inl ⟨0, by decide +kernel, rfl, rfl⟩
theorem r_10_weigh_101 : RG M_X10_weigh 101 10 6 104 := ⟨27, _, by decide +kernel, rfl, by decide, wd_f10_27, rfl, rfl⟩
theorem r_10_weigh_104 : RL M_X10_weigh 104 2 105 := Or.inl ⟨2, by decide +kernel, rfl, rfl⟩
theorem r_10_weigh_105 : RW M_X10_weigh 105 .aaload 106 1 := ⟨by decide +kernel, rfl⟩
theorem r_10_weigh_106 : RL M_X10_weigh 106 3 107 := Or.inl ⟨3, by decide +kernel, rfl, rfl⟩
theorem r_10_weigh_107 : RC M_X10_weigh 107 1 108 := ⟨⟨by decide, by decide⟩, Or.inl ⟨by decide +kernel, rfl⟩⟩
theorem r_10_weigh_108 : RW M_X10_weigh 108 .iastore 109 1 := ⟨by decide +kernel, rfl⟩
theorem r_10_weigh_109 : RB M_X10_weigh 109 .goto 185 112 := ⟨76, by decide +kernel, rfl, rfl⟩
theorem r_10_weigh_16 : RA M_X10_weigh 16 0 17 := Or.inl ⟨0, by decide +kernel, rfl, rfl⟩
theorem r_10_weigh_17 : RG M_X10_weigh 17 10 8 20 := ⟨35, _, by decide +kernel, rfl, by decide, wd_f10_35, rfl, rfl⟩
theorem r_10_weigh_20 : RL M_X10_weigh 20 2 21 := Or.inl ⟨2, by decide +kernel, rfl, rfl⟩
theorem r_10_weigh_21 : RA M_X10_weigh 21 0 22 := Or.inl ⟨0, by decide +kernel, rfl, rfl⟩
theorem r_10_weigh_22 : RG M_X10_weigh 22 10 0 25 := ⟨47, _, by decide +kernel, rfl, by decide, wd_f10_47, rfl, rfl⟩
theorem r_10_weigh_25 : RL M_X10_weigh 25 2 26 := Or.inl ⟨2, by decide +kernel, rfl, rfl⟩
theorem r_10_weigh_26 : RKv M_X10_weigh M_X1_countGraded 26 1 1 29 := ⟨80, by decide +kernel, wd_m10_80, ok_M_X1_countGraded, wd_s1_countGraded, rfl⟩
theorem r_10_weigh_29 : RW M_X10_weigh 29 .iastore 30 1 := ⟨by decide +kernel, rfl⟩
theorem r_10_weigh_30 : RA M_X10_weigh 30 0 31 := Or.inl ⟨0, by decide +kernel, rfl, rfl⟩
theorem r_10_weigh_31 : RG M_X10_weigh 31 10 9 34 := ⟨38, _, by decide +kernel, rfl, by decide, wd_f10_38, rfl, rfl⟩
theorem r_10_weigh_34 : RL M_X10_weigh 34 2 35 := Or.inl ⟨2, by decide +kernel, rfl, rfl⟩
theorem r_10_weigh_35 : RA M_X10_weigh 35 0 36 := Or.inl ⟨0, by decide +kernel, rfl, rfl⟩
theorem r_10_weigh_36 : RG M_X10_weigh 36 10 0 39 := ⟨47, _, by decide +kernel, rfl, by decide, wd_f10_47, rfl, rfl⟩
theorem r_10_weigh_39 : RL M_X10_weigh 39 2 40 := Or.inl ⟨2, by decide +kernel, rfl, rfl⟩
theorem r_10_weigh_40 : RC M_X10_weigh 40 1 41 := ⟨⟨by decide, by decide⟩, Or.inl ⟨by decide +kernel, rfl⟩⟩
theorem r_10_weigh_41 : RKv M_X10_weigh M_X1_countIn 41 2 1 44 := ⟨84, by decide +kernel, wd_m10_84, ok_M_X1_countIn, wd_s1_countIn, rfl⟩
theorem r_10_weigh_44 : RW M_X10_weigh 44 .iastore 45 1 := ⟨by decide +kernel, rfl⟩
theorem r_10_weigh_45 : RI M_X10_weigh 45 2 1 48 := ⟨by decide, by decide +kernel, rfl⟩
theorem r_10_weigh_48 : RB M_X10_weigh 48 .goto 10 51 := ⟨(-38), by decide +kernel, rfl, rfl⟩
theorem r_10_isIn_0 : RL M_X10_isIn 0 0 1 := Or.inl ⟨0, by decide +kernel, rfl, rfl⟩
theorem r_10_isIn_1 : RL M_X10_isIn 1 1 2 := Or.inl ⟨1, by decide +kernel, rfl, rfl⟩
theorem r_10_isIn_2 : RW M_X10_isIn 2 .ishr 3 1 := ⟨by decide +kernel, rfl⟩
theorem r_10_isIn_3 : RC M_X10_isIn 3 1 4 := ⟨⟨by decide, by decide⟩, Or.inl ⟨by decide +kernel, rfl⟩⟩
theorem r_10_isIn_4 : RW M_X10_isIn 4 .iand 5 1 := ⟨by decide +kernel, rfl⟩
theorem r_10_isIn_5 : RB M_X10_isIn 5 (.ifCond .eq) 12 8 := ⟨7, by decide +kernel, rfl, rfl⟩
theorem r_10_isIn_12 : RC M_X10_isIn 12 0 13 := ⟨⟨by decide, by decide⟩, Or.inl ⟨by decide +kernel, rfl⟩⟩
theorem r_10_isIn_13 : RW M_X10_isIn 13 .ireturn 14 1 := ⟨by decide +kernel, rfl⟩
theorem r_10_isIn_8 : RC M_X10_isIn 8 1 9 := ⟨⟨by decide, by decide⟩, Or.inl ⟨by decide +kernel, rfl⟩⟩
theorem r_10_isIn_9 : RB M_X10_isIn 9 .goto 13 12 := ⟨4, by decide +kernel, rfl, rfl⟩
theorem r_10_isSetOf_0 : RL M_X10_isSetOf 0 2 1 := Or.inl ⟨2, by decide +kernel, rfl, rfl⟩
theorem r_10_isSetOf_1 : RB M_X10_isSetOf 1 (.ifCond .lt) 20 4 := ⟨19, by decide +kernel, rfl, rfl⟩
theorem r_10_isSetOf_20 : RC M_X10_isSetOf 20 0 21 := ⟨⟨by decide, by decide⟩, Or.inl ⟨by decide +kernel, rfl⟩⟩
theorem r_10_isSetOf_21 : RW M_X10_isSetOf 21 .ireturn 22 1 := ⟨by decide +kernel, rfl⟩
theorem r_10_isSetOf_4 : RL M_X10_isSetOf 4 2 5 := Or.inl ⟨2, by decide +kernel, rfl, rfl⟩
theorem r_10_isSetOf_5 : RC M_X10_isSetOf 5 1 6 := ⟨⟨by decide, by decide⟩, Or.inl ⟨by decide +kernel, rfl⟩⟩
theorem r_10_isSetOf_6 : RA M_X10_isSetOf 6 0 7 := Or.inl ⟨0, by decide +kernel, rfl, rfl⟩
theorem r_10_isSetOf_7 : RG M_X10_isSetOf 7 10 3 10 := ⟨16, _, by decide +kernel, rfl, by decide, wd_f10_16, rfl, rfl⟩
theorem r_10_isSetOf_10 : RL M_X10_isSetOf 10 1 11 := Or.inl ⟨1, by decide +kernel, rfl, rfl⟩
theorem r_10_isSetOf_11 : RW M_X10_isSetOf 11 .iaload 12 1 := ⟨by decide +kernel, rfl⟩
theorem r_10_isSetOf_12 : RW M_X10_isSetOf 12 .ishl 13 1 := ⟨by decide +kernel, rfl⟩
theorem r_10_isSetOf_13 : RB M_X10_isSetOf 13 (.if_icmp .ge) 20 16 := ⟨7, by decide +kernel, rfl, rfl⟩
theorem r_10_isSetOf_16 : RC M_X10_isSetOf 16 1 17 := ⟨⟨by decide, by decide⟩, Or.inl ⟨by decide +kernel, rfl⟩⟩
theorem r_10_isSetOf_17 : RB M_X10_isSetOf 17 .goto 21 20 := ⟨4, by decide +kernel, rfl, rfl⟩
theorem r_10_isBarred_0 : RC M_X10_isBarred 0 0 1 := ⟨⟨by decide, by decide⟩, Or.inl ⟨by decide +kernel, rfl⟩⟩
theorem r_10_isBarred_1 : RS M_X10_isBarred 1 4 3 := ⟨by decide, Or.inr ⟨by decide +kernel, rfl⟩⟩
theorem r_10_isBarred_3 : RL M_X10_isBarred 3 4 5 := Or.inr ⟨by decide +kernel, rfl⟩
theorem r_10_isBarred_5 : RA M_X10_isBarred 5 0 6 := Or.inl ⟨0, by decide +kernel, rfl, rfl⟩
theorem r_10_isBarred_6 : RG M_X10_isBarred 6 10 3 9 := ⟨16, _, by decide +kernel, rfl, by decide, wd_f10_16, rfl, rfl⟩
theorem r_10_isBarred_9 : RL M_X10_isBarred 9 1 10 := Or.inl ⟨1, by decide +kernel, rfl, rfl⟩
theorem r_10_isBarred_10 : RW M_X10_isBarred 10 .iaload 11 1 := ⟨by decide +kernel, rfl⟩
theorem r_10_isBarred_11 : RB M_X10_isBarred 11 (.if_icmp .ge) 44 14 := ⟨33, by decide +kernel, rfl, rfl⟩
theorem r_10_isBarred_44 : RC M_X10_isBarred 44 0 45 := ⟨⟨by decide, by decide⟩, Or.inl ⟨by decide +kernel, rfl⟩⟩
theorem r_10_isBarred_45 : RW M_X10_isBarred 45 .ireturn 46 1 := ⟨by decide +kernel, rfl⟩
theorem r_10_isBarred_14 : RL M_X10_isBarred 14 2 15 := Or.inl ⟨2, by decide +kernel, rfl, rfl⟩
theorem r_10_isBarred_15 : RL M_X10_isBarred 15 4 17 := Or.inr ⟨by decide +kernel, rfl⟩
theorem r_10_isBarred_17 : RKs M_X10_isBarred M_X10_isIn 17 2 20 := ⟨118, by decide +kernel, Or.inl wd_m10_118, ok_M_X10_isIn, rfl⟩
theorem r_10_isBarred_20 : RB M_X10_isBarred 20 (.ifCond .eq) 38 23 := ⟨18, by decide +kernel, rfl, rfl⟩
theorem r_10_isBarred_38 : RI M_X10_isBarred 38 4 1 41 := ⟨by decide, by decide +kernel, rfl⟩
theorem r_10_isBarred_41 : RB M_X10_isBarred 41 .goto 3 44 := ⟨(-38), by decide +kernel, rfl, rfl⟩
theorem r_10_isBarred_23 : RA M_X10_isBarred 23 0 24 := Or.inl ⟨0, by decide +kernel, rfl, rfl⟩
theorem r_10_isBarred_24 : RG M_X10_isBarred 24 10 6 27 := ⟨27, _, by decide +kernel, rfl, by decide, wd_f10_27, rfl, rfl⟩
theorem r_10_isBarred_27 : RL M_X10_isBarred 27 1 28 := Or.inl ⟨1, by decide +kernel, rfl, rfl⟩
theorem r_10_isBarred_28 : RW M_X10_isBarred 28 .aaload 29 1 := ⟨by decide +kernel, rfl⟩
theorem r_10_isBarred_29 : RL M_X10_isBarred 29 4 31 := Or.inr ⟨by decide +kernel, rfl⟩
theorem r_10_isBarred_31 : RW M_X10_isBarred 31 .iaload 32 1 := ⟨by decide +kernel, rfl⟩
theorem r_10_isBarred_32 : RL M_X10_isBarred 32 3 33 := Or.inl ⟨3, by decide +kernel, rfl, rfl⟩
theorem r_10_isBarred_33 : RB M_X10_isBarred 33 (.if_icmp .ne) 38 36 := ⟨5, by decide +kernel, rfl, rfl⟩
theorem r_10_isBarred_36 : RC M_X10_isBarred 36 1 37 := ⟨⟨by decide, by decide⟩, Or.inl ⟨by decide +kernel, rfl⟩⟩
theorem r_10_isBarred_37 : RW M_X10_isBarred 37 .ireturn 38 1 := ⟨by decide +kernel, rfl⟩
theorem r_10_sumWorth_0 : RC M_X10_sumWorth 0 0 1 := ⟨⟨by decide, by decide⟩, Or.inl ⟨by decide +kernel, rfl⟩⟩
theorem r_10_sumWorth_1 : RS M_X10_sumWorth 1 4 3 := ⟨by decide, Or.inr ⟨by decide +kernel, rfl⟩⟩
theorem r_10_sumWorth_3 : RC M_X10_sumWorth 3 0 4 := ⟨⟨by decide, by decide⟩, Or.inl ⟨by decide +kernel, rfl⟩⟩
theorem r_10_sumWorth_4 : RS M_X10_sumWorth 4 5 6 := ⟨by decide, Or.inr ⟨by decide +kernel, rfl⟩⟩
theorem r_10_sumWorth_6 : RL M_X10_sumWorth 6 5 8 := Or.inr ⟨by decide +kernel, rfl⟩
theorem r_10_sumWorth_8 : RA M_X10_sumWorth 8 0 9 := Or.inl ⟨0, by decide +kernel, rfl, rfl⟩
theorem r_10_sumWorth_9 : RG M_X10_sumWorth 9 10 3 12 := ⟨16, _, by decide +kernel, rfl, by decide, wd_f10_16, rfl, rfl⟩
theorem r_10_sumWorth_12 : RL M_X10_sumWorth 12 1 13 := Or.inl ⟨1, by decide +kernel, rfl, rfl⟩
theorem r_10_sumWorth_13 : RW M_X10_sumWorth 13 .iaload 14 1 := ⟨by decide +kernel, rfl⟩
theorem r_10_sumWorth_14 : RB M_X10_sumWorth 14 (.if_icmp .ge) 50 17 := ⟨36, by decide +kernel, rfl, rfl⟩
theorem r_10_sumWorth_50 : RL M_X10_sumWorth 50 4 52 := Or.inr ⟨by decide +kernel, rfl⟩
theorem r_10_sumWorth_52 : RW M_X10_sumWorth 52 .ireturn 53 1 := ⟨by decide +kernel, rfl⟩
theorem r_10_sumWorth_17 : RL M_X10_sumWorth 17 2 18 := Or.inl ⟨2, by decide +kernel, rfl, rfl⟩
theorem r_10_sumWorth_18 : RL M_X10_sumWorth 18 5 20 := Or.inr ⟨by decide +kernel, rfl⟩
theorem r_10_sumWorth_20 : RKs M_X10_sumWorth M_X10_isIn 20 2 23 := ⟨118, by decide +kernel, Or.inl wd_m10_118, ok_M_X10_isIn, rfl⟩
theorem r_10_sumWorth_23 : RB M_X10_sumWorth 23 (.ifCond .eq) 44 26 := ⟨21, by decide +kernel, rfl, rfl⟩
theorem r_10_sumWorth_44 : RI M_X10_sumWorth 44 5 1 47 := ⟨by decide, by decide +kernel, rfl⟩
theorem r_10_sumWorth_47 : RB M_X10_sumWorth 47 .goto 6 50 := ⟨(-41), by decide +kernel, rfl, rfl⟩
theorem r_10_sumWorth_26 : RL M_X10_sumWorth 26 4 28 := Or.inr ⟨by decide +kernel, rfl⟩
theorem r_10_sumWorth_28 : RA M_X10_sumWorth 28 0 29 := Or.inl ⟨0, by decide +kernel, rfl, rfl⟩
theorem r_10_sumWorth_29 : RG M_X10_sumWorth 29 10 7 32 := ⟨30, _, by decide +kernel, rfl, by decide, wd_f10_30, rfl, rfl⟩
theorem r_10_sumWorth_32 : RC M_X10_sumWorth 32 2 33 := ⟨⟨by decide, by decide⟩, Or.inl ⟨by decide +kernel, rfl⟩⟩
theorem r_10_sumWorth_33 : RL M_X10_sumWorth 33 1 34 := Or.inl ⟨1, by decide +kernel, rfl, rfl⟩
theorem r_10_sumWorth_34 : RW M_X10_sumWorth 34 .imul 35 1 := ⟨by decide +kernel, rfl⟩
theorem r_10_sumWorth_35 : RL M_X10_sumWorth 35 3 36 := Or.inl ⟨3, by decide +kernel, rfl, rfl⟩
theorem r_10_sumWorth_36 : RW M_X10_sumWorth 36 .iadd 37 1 := ⟨by decide +kernel, rfl⟩
theorem r_10_sumWorth_37 : RW M_X10_sumWorth 37 .aaload 38 1 := ⟨by decide +kernel, rfl⟩
theorem r_10_sumWorth_38 : RL M_X10_sumWorth 38 5 40 := Or.inr ⟨by decide +kernel, rfl⟩
theorem r_10_sumWorth_40 : RW M_X10_sumWorth 40 .iaload 41 1 := ⟨by decide +kernel, rfl⟩
theorem r_10_sumWorth_41 : RW M_X10_sumWorth 41 .iadd 42 1 := ⟨by decide +kernel, rfl⟩
theorem r_10_sumWorth_42 : RS M_X10_sumWorth 42 4 44 := ⟨by decide, Or.inr ⟨by decide +kernel, rfl⟩⟩
theorem r_10_partsChild_0 : RC M_X10_partsChild 0 0 1 := ⟨⟨by decide, by decide⟩, Or.inl ⟨by decide +kernel, rfl⟩⟩
theorem r_10_partsChild_1 : RS M_X10_partsChild 1 3 2 := ⟨by decide, Or.inl ⟨3, by decide +kernel, rfl, rfl⟩⟩
theorem r_10_partsChild_2 : RL M_X10_partsChild 2 3 3 := Or.inl ⟨3, by decide +kernel, rfl, rfl⟩
theorem r_10_partsChild_3 : RA M_X10_partsChild 3 0 4 := Or.inl ⟨0, by decide +kernel, rfl, rfl⟩
theorem r_10_partsChild_4 : RG M_X10_partsChild 4 10 3 7 := ⟨16, _, by decide +kernel, rfl, by decide, wd_f10_16, rfl, rfl⟩
theorem r_10_partsChild_7 : RL M_X10_partsChild 7 1 8 := Or.inl ⟨1, by decide +kernel, rfl, rfl⟩
theorem r_10_partsChild_8 : RW M_X10_partsChild 8 .iaload 9 1 := ⟨by decide +kernel, rfl⟩
theorem r_10_partsChild_9 : RB M_X10_partsChild 9 (.if_icmp .ge) 84 12 := ⟨75, by decide +kernel, rfl, rfl⟩
theorem r_10_partsChild_84 : RC M_X10_partsChild 84 0 85 := ⟨⟨by decide, by decide⟩, Or.inl ⟨by decide +kernel, rfl⟩⟩
theorem r_10_partsChild_85 : RW M_X10_partsChild 85 .ireturn 86 1 := ⟨by decide +kernel, rfl⟩
theorem r_10_partsChild_12 : RA M_X10_partsChild 12 0 13 := Or.inl ⟨0, by decide +kernel, rfl, rfl⟩
theorem r_10_partsChild_13 : RG M_X10_partsChild 13 10 0 16 := ⟨47, _, by decide +kernel, rfl, by decide, wd_f10_47, rfl, rfl⟩
theorem r_10_partsChild_16 : RA M_X10_partsChild 16 0 17 := Or.inl ⟨0, by decide +kernel, rfl, rfl⟩
theorem r_10_partsChild_17 : RG M_X10_partsChild 17 10 2 20 := ⟨13, _, by decide +kernel, rfl, by decide, wd_f10_13, rfl, rfl⟩
theorem r_10_partsChild_20 : RL M_X10_partsChild 20 1 21 := Or.inl ⟨1, by decide +kernel, rfl, rfl⟩
theorem r_10_partsChild_21 : RW M_X10_partsChild 21 .aaload 22 1 := ⟨by decide +kernel, rfl⟩
theorem r_10_partsChild_22 : RL M_X10_partsChild 22 3 23 := Or.inl ⟨3, by decide +kernel, rfl, rfl⟩
theorem r_10_partsChild_23 : RW M_X10_partsChild 23 .iaload 24 1 := ⟨by decide +kernel, rfl⟩
theorem r_10_partsChild_24 : RKv M_X10_partsChild M_X1_get 24 1 1 27 := ⟨55, by decide +kernel, wd_m10_55, ok_M_X1_get, wd_s1_get, rfl⟩
theorem r_10_partsChild_27 : RT M_X10_partsChild 27 4 29 := ⟨by decide, Or.inr ⟨by decide +kernel, rfl⟩⟩
theorem r_10_partsChild_29 : RA M_X10_partsChild 29 4 31 := Or.inr ⟨by decide +kernel, rfl⟩
theorem r_10_partsChild_31 : RB M_X10_partsChild 31 .ifnull 78 34 := ⟨47, by decide +kernel, rfl, rfl⟩
theorem r_10_partsChild_34 : RA M_X10_partsChild 34 4 36 := Or.inr ⟨by decide +kernel, rfl⟩
theorem r_10_partsChild_36 : RG M_X10_partsChild 36 3 4 39 := ⟨121, _, by decide +kernel, rfl, by decide, wd_f10_121, rfl, rfl⟩
theorem r_10_partsChild_39 : RB M_X10_partsChild 39 (.ifCond .ge) 45 42 := ⟨6, by decide +kernel, rfl, rfl⟩
theorem r_10_partsChild_45 : RA M_X10_partsChild 45 0 46 := Or.inl ⟨0, by decide +kernel, rfl, rfl⟩
theorem r_10_partsChild_46 : RL M_X10_partsChild 46 1 47 := Or.inl ⟨1, by decide +kernel, rfl, rfl⟩
theorem r_10_partsChild_47 : RA M_X10_partsChild 47 4 49 := Or.inr ⟨by decide +kernel, rfl⟩
theorem r_10_partsChild_49 : RG M_X10_partsChild 49 3 4 52 := ⟨121, _, by decide +kernel, rfl, by decide, wd_f10_121, rfl, rfl⟩
theorem r_10_partsChild_52 : RKv M_X10_partsChild M_X10_placeOf 52 2 10 55 := ⟨66, by decide +kernel, wd_m10_66, ok_M_X10_placeOf, wd_s10_placeOf, rfl⟩
theorem r_10_partsChild_55 : RS M_X10_partsChild 55 5 57 := ⟨by decide, Or.inr ⟨by decide +kernel, rfl⟩⟩
theorem r_10_partsChild_57 : RL M_X10_partsChild 57 5 59 := Or.inr ⟨by decide +kernel, rfl⟩
theorem r_10_partsChild_59 : RB M_X10_partsChild 59 (.ifCond .lt) 78 62 := ⟨19, by decide +kernel, rfl, rfl⟩
theorem r_10_partsChild_78 : RI M_X10_partsChild 78 3 1 81 := ⟨by decide, by decide +kernel, rfl⟩
theorem r_10_partsChild_81 : RB M_X10_partsChild 81 .goto 2 84 := ⟨(-79), by decide +kernel, rfl, rfl⟩
theorem r_10_partsChild_62 : RL M_X10_partsChild 62 2 63 := Or.inl ⟨2, by decide +kernel, rfl, rfl⟩
theorem r_10_partsChild_63 : RL M_X10_partsChild 63 3 64 := Or.inl ⟨3, by decide +kernel, rfl, rfl⟩
theorem r_10_partsChild_64 : RKs M_X10_partsChild M_X10_isIn 64 2 67 := ⟨118, by decide +kernel, Or.inl wd_m10_118, ok_M_X10_isIn, rfl⟩
theorem r_10_partsChild_67 : RL M_X10_partsChild 67 2 68 := Or.inl ⟨2, by decide +kernel, rfl, rfl⟩
theorem r_10_partsChild_68 : RL M_X10_partsChild 68 5 70 := Or.inr ⟨by decide +kernel, rfl⟩
theorem r_10_partsChild_70 : RKs M_X10_partsChild M_X10_isIn 70 2 73 := ⟨118, by decide +kernel, Or.inl wd_m10_118, ok_M_X10_isIn, rfl⟩
theorem r_10_partsChild_73 : RB M_X10_partsChild 73 (.if_icmp .eq) 78 76 := ⟨5, by decide +kernel, rfl, rfl⟩
theorem r_10_partsChild_76 : RC M_X10_partsChild 76 1 77 := ⟨⟨by decide, by decide⟩, Or.inl ⟨by decide +kernel, rfl⟩⟩
theorem r_10_partsChild_77 : RW M_X10_partsChild 77 .ireturn 78 1 := ⟨by decide +kernel, rfl⟩
theorem r_10_partsChild_42 : RB M_X10_partsChild 42 .goto 78 45 := ⟨36, by decide +kernel, rfl, rfl⟩
theorem r_10_doctorsWanted_0 : RA M_X10_doctorsWanted 0 0 1 := Or.inl ⟨0, by decide +kernel, rfl, rfl⟩
theorem r_10_doctorsWanted_1 : RG M_X10_doctorsWanted 1 10 5 4 := ⟨23, _, by decide +kernel, rfl, by decide, wd_f10_23, rfl, rfl⟩
theorem r_10_doctorsWanted_4 : RC M_X10_doctorsWanted 4 1 5 := ⟨⟨by decide, by decide⟩, Or.inl ⟨by decide +kernel, rfl⟩⟩
theorem r_10_doctorsWanted_5 : RB M_X10_doctorsWanted 5 (.if_icmp .ge) 12 8 := ⟨7, by decide +kernel, rfl, rfl⟩
theorem r_10_doctorsWanted_12 : RL M_X10_doctorsWanted 12 1 13 := Or.inl ⟨1, by decide +kernel, rfl, rfl⟩
theorem r_10_doctorsWanted_13 : RA M_X10_doctorsWanted 13 0 14 := Or.inl ⟨0, by decide +kernel, rfl, rfl⟩
theorem r_10_doctorsWanted_14 : RG M_X10_doctorsWanted 14 10 5 17 := ⟨23, _, by decide +kernel, rfl, by decide, wd_f10_23, rfl, rfl⟩
theorem r_10_doctorsWanted_17 : RW M_X10_doctorsWanted 17 .iadd 18 1 := ⟨by decide +kernel, rfl⟩
theorem r_10_doctorsWanted_18 : RC M_X10_doctorsWanted 18 1 19 := ⟨⟨by decide, by decide⟩, Or.inl ⟨by decide +kernel, rfl⟩⟩
theorem r_10_doctorsWanted_19 : RW M_X10_doctorsWanted 19 .isub 20 1 := ⟨by decide +kernel, rfl⟩
theorem r_10_doctorsWanted_20 : RA M_X10_doctorsWanted 20 0 21 := Or.inl ⟨0, by decide +kernel, rfl, rfl⟩
theorem r_10_doctorsWanted_21 : RG M_X10_doctorsWanted 21 10 5 24 := ⟨23, _, by decide +kernel, rfl, by decide, wd_f10_23, rfl, rfl⟩
theorem r_10_doctorsWanted_24 : RW M_X10_doctorsWanted 24 .idiv 25 1 := ⟨by decide +kernel, rfl⟩
theorem r_10_doctorsWanted_25 : RW M_X10_doctorsWanted 25 .ireturn 26 1 := ⟨by decide +kernel, rfl⟩
theorem r_10_doctorsWanted_8 : RC M_X10_doctorsWanted 8 0 9 := ⟨⟨by decide, by decide⟩, Or.inl ⟨by decide +kernel, rfl⟩⟩
theorem r_10_doctorsWanted_9 : RB M_X10_doctorsWanted 9 .goto 25 12 := ⟨16, by decide +kernel, rfl, rfl⟩
theorem r_10_lacksDoctors_0 : RC M_X10_lacksDoctors 0 0 1 := ⟨⟨by decide, by decide⟩, Or.inl ⟨by decide +kernel, rfl⟩⟩
theorem r_10_lacksDoctors_1 : RS M_X10_lacksDoctors 1 3 2 := ⟨by decide, Or.inl ⟨3, by decide +kernel, rfl, rfl⟩⟩
theorem r_10_lacksDoctors_2 : RL M_X10_lacksDoctors 2 3 3 := Or.inl ⟨3, by decide +kernel, rfl, rfl⟩
theorem r_10_lacksDoctors_3 : RC M_X10_lacksDoctors 3 16 5 := ⟨⟨by decide, by decide⟩, Or.inr (Or.inl ⟨by decide +kernel, by decide, rfl⟩)⟩
theorem r_10_lacksDoctors_5 : RB M_X10_lacksDoctors 5 (.if_icmp .ge) 150 8 := ⟨145, by decide +kernel, rfl, rfl⟩
theorem r_10_lacksDoctors_150 : RC M_X10_lacksDoctors 150 0 151 := ⟨⟨by decide, by decide⟩, Or.inl ⟨by decide +kernel, rfl⟩⟩
theorem r_10_lacksDoctors_151 : RW M_X10_lacksDoctors 151 .ireturn 152 1 := ⟨by decide +kernel, rfl⟩
theorem r_10_lacksDoctors_8 : RA M_X10_lacksDoctors 8 0 9 := Or.inl ⟨0, by decide +kernel, rfl, rfl⟩
theorem r_10_lacksDoctors_9 : RG M_X10_lacksDoctors 9 10 8 12 := ⟨35, _, by decide +kernel, rfl, by decide, wd_f10_35, rfl, rfl⟩
theorem r_10_lacksDoctors_12 : RL M_X10_lacksDoctors 12 3 13 := Or.inl ⟨3, by decide +kernel, rfl, rfl⟩
theorem r_10_lacksDoctors_13 : RW M_X10_lacksDoctors 13 .iaload 14 1 := ⟨by decide +kernel, rfl⟩
theorem r_10_lacksDoctors_14 : RS M_X10_lacksDoctors 14 4 16 := ⟨by decide, Or.inr ⟨by decide +kernel, rfl⟩⟩
theorem r_10_lacksDoctors_16 : RA M_X10_lacksDoctors 16 0 17 := Or.inl ⟨0, by decide +kernel, rfl, rfl⟩
theorem r_10_lacksDoctors_17 : RG M_X10_lacksDoctors 17 10 9 20 := ⟨38, _, by decide +kernel, rfl, by decide, wd_f10_38, rfl, rfl⟩
theorem r_10_lacksDoctors_20 : RL M_X10_lacksDoctors 20 3 21 := Or.inl ⟨3, by decide +kernel, rfl, rfl⟩
theorem r_10_lacksDoctors_21 : RW M_X10_lacksDoctors 21 .iaload 22 1 := ⟨by decide +kernel, rfl⟩
theorem r_10_lacksDoctors_22 : RS M_X10_lacksDoctors 22 5 24 := ⟨by decide, Or.inr ⟨by decide +kernel, rfl⟩⟩
theorem r_10_lacksDoctors_24 : RC M_X10_lacksDoctors 24 0 25 := ⟨⟨by decide, by decide⟩, Or.inl ⟨by decide +kernel, rfl⟩⟩
theorem r_10_lacksDoctors_25 : RS M_X10_lacksDoctors 25 6 27 := ⟨by decide, Or.inr ⟨by decide +kernel, rfl⟩⟩
theorem r_10_lacksDoctors_27 : RL M_X10_lacksDoctors 27 6 29 := Or.inr ⟨by decide +kernel, rfl⟩
theorem r_10_lacksDoctors_29 : RA M_X10_lacksDoctors 29 0 30 := Or.inl ⟨0, by decide +kernel, rfl, rfl⟩
theorem r_10_lacksDoctors_30 : RG M_X10_lacksDoctors 30 10 3 33 := ⟨16, _, by decide +kernel, rfl, by decide, wd_f10_16, rfl, rfl⟩
theorem r_10_lacksDoctors_33 : RL M_X10_lacksDoctors 33 1 34 := Or.inl ⟨1, by decide +kernel, rfl, rfl⟩
theorem r_10_lacksDoctors_34 : RW M_X10_lacksDoctors 34 .iaload 35 1 := ⟨by decide +kernel, rfl⟩
theorem r_10_lacksDoctors_35 : RB M_X10_lacksDoctors 35 (.if_icmp .ge) 122 38 := ⟨87, by decide +kernel, rfl, rfl⟩
theorem r_10_lacksDoctors_122 : RL M_X10_lacksDoctors 122 5 124 := Or.inr ⟨by decide +kernel, rfl⟩
theorem r_10_lacksDoctors_124 : RA M_X10_lacksDoctors 124 0 125 := Or.inl ⟨0, by decide +kernel, rfl, rfl⟩
theorem r_10_lacksDoctors_125 : RL M_X10_lacksDoctors 125 4 127 := Or.inr ⟨by decide +kernel, rfl⟩
theorem r_10_lacksDoctors_127 : RKv M_X10_lacksDoctors M_X10_doctorsWanted 127 1 10 130 := ⟨133, by decide +kernel, wd_m10_133, ok_M_X10_doctorsWanted, wd_s10_doctorsWanted, rfl⟩
theorem r_10_lacksDoctors_130 : RA M_X10_lacksDoctors 130 0 131 := Or.inl ⟨0, by decide +kernel, rfl, rfl⟩
theorem r_10_lacksDoctors_131 : RG M_X10_lacksDoctors 131 10 9 134 := ⟨38, _, by decide +kernel, rfl, by decide, wd_f10_38, rfl, rfl⟩
theorem r_10_lacksDoctors_134 : RL M_X10_lacksDoctors 134 3 135 := Or.inl ⟨3, by decide +kernel, rfl, rfl⟩
theorem r_10_lacksDoctors_135 : RW M_X10_lacksDoctors 135 .iaload 136 1 := ⟨by decide +kernel, rfl⟩
theorem r_10_lacksDoctors_136 : RKm M_X10_lacksDoctors 136 Lib.Math.min.name 139 := ⟨136, by decide +kernel, wd_m10_136, rfl⟩
theorem r_10_lacksDoctors_139 : RB M_X10_lacksDoctors 139 (.if_icmp .ge) 144 142 := ⟨5, by decide +kernel, rfl, rfl⟩
theorem r_10_lacksDoctors_144 : RI M_X10_lacksDoctors 144 3 1 147 := ⟨by decide, by decide +kernel, rfl⟩
theorem r_10_lacksDoctors_147 : RB M_X10_lacksDoctors 147 .goto 2 150 := ⟨(-145), by decide +kernel, rfl, rfl⟩
theorem r_10_lacksDoctors_142 : RC M_X10_lacksDoctors 142 1 143 := ⟨⟨by decide, by decide⟩, Or.inl ⟨by decide +kernel, rfl⟩⟩
theorem r_10_lacksDoctors_143 : RW M_X10_lacksDoctors 143 .ireturn 144 1 := ⟨by decide +kernel, rfl⟩
theorem r_10_lacksDoctors_38 : RA M_X10_lacksDoctors 38 0 39 := Or.inl ⟨0, by decide +kernel, rfl, rfl⟩
theorem r_10_lacksDoctors_39 : RG M_X10_lacksDoctors 39 10 0 42 := ⟨47, _, by decide +kernel, rfl, by decide, wd_f10_47, rfl, rfl⟩
theorem r_10_lacksDoctors_42 : RA M_X10_lacksDoctors 42 0 43 := Or.inl ⟨0, by decide +kernel, rfl, rfl⟩
theorem r_10_lacksDoctors_43 : RG M_X10_lacksDoctors 43 10 2 46 := ⟨13, _, by decide +kernel, rfl, by decide, wd_f10_13, rfl, rfl⟩
theorem r_10_lacksDoctors_46 : RL M_X10_lacksDoctors 46 1 47 := Or.inl ⟨1, by decide +kernel, rfl, rfl⟩
theorem r_10_lacksDoctors_47 : RW M_X10_lacksDoctors 47 .aaload 48 1 := ⟨by decide +kernel, rfl⟩
theorem r_10_lacksDoctors_48 : RL M_X10_lacksDoctors 48 6 50 := Or.inr ⟨by decide +kernel, rfl⟩
theorem r_10_lacksDoctors_50 : RW M_X10_lacksDoctors 50 .iaload 51 1 := ⟨by decide +kernel, rfl⟩
theorem r_10_lacksDoctors_51 : RKv M_X10_lacksDoctors M_X1_get 51 1 1 54 := ⟨55, by decide +kernel, wd_m10_55, ok_M_X1_get, wd_s1_get, rfl⟩
theorem r_10_lacksDoctors_54 : RT M_X10_lacksDoctors 54 7 56 := ⟨by decide, Or.inr ⟨by decide +kernel, rfl⟩⟩
theorem r_10_lacksDoctors_56 : RA M_X10_lacksDoctors 56 7 58 := Or.inr ⟨by decide +kernel, rfl⟩
theorem r_10_lacksDoctors_58 : RB M_X10_lacksDoctors 58 .ifnull 116 61 := ⟨58, by decide +kernel, rfl, rfl⟩
theorem r_10_lacksDoctors_61 : RL M_X10_lacksDoctors 61 2 62 := Or.inl ⟨2, by decide +kernel, rfl, rfl⟩
theorem r_10_lacksDoctors_62 : RL M_X10_lacksDoctors 62 6 64 := Or.inr ⟨by decide +kernel, rfl⟩
theorem r_10_lacksDoctors_64 : RKs M_X10_lacksDoctors M_X10_isIn 64 2 67 := ⟨118, by decide +kernel, Or.inl wd_m10_118, ok_M_X10_isIn, rfl⟩
theorem r_10_lacksDoctors_67 : RB M_X10_lacksDoctors 67 (.ifCond .eq) 116 70 := ⟨49, by decide +kernel, rfl, rfl⟩
theorem r_10_lacksDoctors_116 : RI M_X10_lacksDoctors 116 6 1 119 := ⟨by decide, by decide +kernel, rfl⟩
theorem r_10_lacksDoctors_119 : RB M_X10_lacksDoctors 119 .goto 27 122 := ⟨(-92), by decide +kernel, rfl, rfl⟩
theorem r_10_lacksDoctors_70 : RA M_X10_lacksDoctors 70 7 72 := Or.inr ⟨by decide +kernel, rfl⟩
theorem r_10_lacksDoctors_72 : RL M_X10_lacksDoctors 72 3 73 := Or.inl ⟨3, by decide +kernel, rfl, rfl⟩
theorem r_10_lacksDoctors_73 : RKv M_X10_lacksDoctors M_X3_isIn 73 1 3 76 := ⟨124, by decide +kernel, wd_m10_124, ok_M_X3_isIn, wd_s3_isIn, rfl⟩
theorem r_10_lacksDoctors_76 : RB M_X10_lacksDoctors 76 (.ifCond .eq) 116 79 := ⟨40, by decide +kernel, rfl, rfl⟩
theorem r_10_lacksDoctors_79 : RL M_X10_lacksDoctors 79 4 81 := Or.inr ⟨by decide +kernel, rfl⟩
theorem r_10_lacksDoctors_81 : RA M_X10_lacksDoctors 81 7 83 := Or.inr ⟨by decide +kernel, rfl⟩
theorem r_10_lacksDoctors_83 : RG M_X10_lacksDoctors 83 3 6 86 := ⟨127, _, by decide +kernel, rfl, by decide, wd_f10_127, rfl, rfl⟩
theorem r_10_lacksDoctors_86 : RB M_X10_lacksDoctors 86 (.ifCond .le) 93 89 := ⟨7, by decide +kernel, rfl, rfl⟩
theorem r_10_lacksDoctors_93 : RC M_X10_lacksDoctors 93 0 94 := ⟨⟨by decide, by decide⟩, Or.inl ⟨by decide +kernel, rfl⟩⟩
theorem r_10_lacksDoctors_94 : RW M_X10_lacksDoctors 94 .isub 95 1 := ⟨by decide +kernel, rfl⟩
theorem r_10_lacksDoctors_95 : RS M_X10_lacksDoctors 95 4 97 := ⟨by decide, Or.inr ⟨by decide +kernel, rfl⟩⟩
theorem r_10_lacksDoctors_97 : RL M_X10_lacksDoctors 97 5 99 := Or.inr ⟨by decide +kernel, rfl⟩
theorem r_10_lacksDoctors_99 : RA M_X10_lacksDoctors 99 7 101 := Or.inr ⟨by decide +kernel, rfl⟩
theorem r_10_lacksDoctors_101 : RG M_X10_lacksDoctors 101 3 1 104 := ⟨130, _, by decide +kernel, rfl, by decide, wd_f10_130, rfl, rfl⟩
theorem r_10_lacksDoctors_104 : RC M_X10_lacksDoctors 104 3 105 := ⟨⟨by decide, by decide⟩, Or.inl ⟨by decide +kernel, rfl⟩⟩
theorem r_10_lacksDoctors_105 : RB M_X10_lacksDoctors 105 (.if_icmp .ne) 112 108 := ⟨7, by decide +kernel, rfl, rfl⟩
theorem r_10_lacksDoctors_112 : RC M_X10_lacksDoctors 112 0 113 := ⟨⟨by decide, by decide⟩, Or.inl ⟨by decide +kernel, rfl⟩⟩
theorem r_10_lacksDoctors_113 : RW M_X10_lacksDoctors 113 .isub 114 1 := ⟨by decide +kernel, rfl⟩
theorem r_10_lacksDoctors_114 : RS M_X10_lacksDoctors 114 5 116 := ⟨by decide, Or.inr ⟨by decide +kernel, rfl⟩⟩
theorem r_10_lacksDoctors_108 : RC M_X10_lacksDoctors 108 1 109 := ⟨⟨by decide, by decide⟩, Or.inl ⟨by decide +kernel, rfl⟩⟩
theorem r_10_lacksDoctors_109 : RB M_X10_lacksDoctors 109 .goto 113 112 := ⟨4, by decide +kernel, rfl, rfl⟩
theorem r_10_lacksDoctors_89 : RC M_X10_lacksDoctors 89 1 90 := ⟨⟨by decide, by decide⟩, Or.inl ⟨by decide +kernel, rfl⟩⟩
theorem r_10_lacksDoctors_90 : RB M_X10_lacksDoctors 90 .goto 94 93 := ⟨4, by decide +kernel, rfl, rfl⟩
set_option maxRecDepth 10000 in
theorem sp_X10_weigh {l : Launch} {w : Wo} {d : Nat} {G : PH} {P : Option PV → PH → Prop} {ST : Int → Int → Int → Prop} {WT : Int → Int → Int → Int → Int} {SD : Int → Int → Int → Int → Int → Int × Int} {FC : Int → Int → Int → Int} {KC : Int → Int → Int → Int → Int} (hp : ∀ i, 0 ≤ i → i < (gF G 1 0 1) → gD G 30 0 i = some (3, i)) (hsz : 0 ≤ (gF G 1 0 1) ∧ (gF G 1 0 1) ≤ 150) (hf : 0 ≤ (gF G 9 0 0) ∧ (gF G 9 0 0) ≤ 300) (hpr : 0 ≤ (gF G 9 0 2) ∧ (gF G 9 0 2) ≤ 40) (htx : 0 ≤ (gF G 8 0 0) ∧ (gF G 8 0 0) ≤ 20) (hTX : txC G) (hSD : sdC G = SD) (hFC : fcC G = FC) (hKC : kC G = KC) (hnA : ∀ i, 0 ≤ i → i < (gF G 1 0 1) → (gF G 3 (i) 0) = i) (hcA : ∀ i, 0 ≤ i → i < (gF G 1 0 1) → 0 ≤ (gF G 3 (i) 5) ∧ (gF G 3 (i) 5) ≤ 600) (hsA : ∀ i, 0 ≤ i → i < (gF G 1 0 1) → 0 ≤ (gF G 3 (i) 2) ∧ (gF G 3 (i) 2) ≤ 1) (hlv : ∀ la i, 0 ≤ la → la < 2 → 0 ≤ i → i < (gA G 94 0 (la)) → 0 ≤ (gA G 93 (la) (i)) ∧ (gA G 93 (la) (i)) < (gF G 1 0 1)) (hof : ∀ la, 0 ≤ la → la < 2 → 0 ≤ (gA G 94 0 (la)) ∧ (gA G 94 0 (la)) ≤ 7) (hdd : 0 ≤ (gF G 1 0 2) ∧ (gF G 1 0 2) ≤ 600) (hST : stC G = ST) (hWT : wtC G = WT) (hP : ∀ g : WQ, (∀ c, 0 ≤ c → c < 16 → g.2.1 c = cgC G c ∧ g.2.2.1 c = ciC G c 1) → (∀ la i, 0 ≤ la → la < 2 → 0 ≤ i → i < (gA G 94 0 (la)) → wOk (fun p => (gF G 3 (p) 8)) (fun p => ST p (gF G 1 0 2) (gF G 1 0 2)) (fun p => WT p 0 (gF G 1 0 2) (gF G 1 0 2)) (fun p => WT p 1 (gF G 1 0 2) (gF G 1 0 2)) (gA G 93) g.2.2.2.1 g.2.2.2.2 (la) (i)) → P none (wghC G g)) : PW l w M_X10_weigh (d + 130) 0 [some (vR 10 (0)), none, none, none, none] [] G P := by
  refine pw_aload r_10_weigh_0 rfl ?_
  refine pw_getR r_10_weigh_1 fs_10_0 (by decide) ?_
  refine pw_getI r_10_weigh_4 fs_1_2 (by decide) ?_
  refine pw_istore (ls' := [some (vR 10 (0)), some (vI (gF G 1 (0) 2)), none, none, none]) r_10_weigh_7 rfl rfl ?_
  refine pw_const r_10_weigh_8 ?_
  refine pw_istore (ls' := [some (vR 10 (0)), some (vI (gF G 1 (0) 2)), some (vI (0)), none, none]) r_10_weigh_9 rfl rfl ?_
  have L10 : ∀ (nF : Nat) (x0 : Int) (g0 : WQ), (hi : 0 ≤ x0 ∧ x0 ≤ 16) → (hg : ∀ c, 0 ≤ c → c < x0 → g0.2.1 c = cgC G c ∧ g0.2.2.1 c = ciC G c 1) → (16 - x0).toNat < nF → PW l w M_X10_weigh (d + 130) 10 [some (vR 10 (0)), some (vI (gF G 1 (0) 2)), some (vI (x0)), none, none] [] (wghC G g0) P := by
    intro nF
    induction nF with
    | zero => intro _ _ _ _ hM; exact absurd hM (Nat.not_lt_zero _)
    | succ nF ih10 =>
      intro x0 g0 hi hg hM10
      refine pw_iload r_10_weigh_10 rfl ?_
      refine pw_const r_10_weigh_11 ?_
      refine pw_icmp_ge r_10_weigh_13 (fun h13 => ?_) (fun h13 => ?_)
      · skip
        refine pw_const r_10_weigh_51 ?_
        refine pw_istore (ls' := [some (vR 10 (0)), some (vI (gF G 1 (0) 2)), some (vI (0)), none, none]) r_10_weigh_52 rfl rfl ?_
        have L53 : ∀ (nF : Nat) (la : Int) (g1 : WQ), (hl : 0 ≤ la ∧ la ≤ 2) → (hg1 : ∀ c, 0 ≤ c → c < 16 → g1.2.1 c = cgC G c ∧ g1.2.2.1 c = ciC G c 1) → (hw1 : ∀ l1 j1, 0 ≤ l1 → 0 ≤ j1 → (l1 < la ∧ j1 < (gA G 94 0 (l1))) → wOk (fun p => (gF G 3 (p) 8)) (fun p => ST p (gF G 1 0 2) (gF G 1 0 2)) (fun p => WT p 0 (gF G 1 0 2) (gF G 1 0 2)) (fun p => WT p 1 (gF G 1 0 2) (gF G 1 0 2)) (gA G 93) g1.2.2.2.1 g1.2.2.2.2 (l1) (j1)) → (2 - la).toNat < nF → PW l w M_X10_weigh (d + 130) 53 [some (vR 10 (0)), some (vI (gF G 1 (0) 2)), some (vI (la)), none, none] [] (wghC G g1) P := by
          intro nF
          induction nF with
          | zero => intro _ _ _ _ _ hM; exact absurd hM (Nat.not_lt_zero _)
          | succ nF ih53 =>
            intro la g1 hl hg1 hw1 hM53
            refine pw_iload r_10_weigh_53 rfl ?_
            refine pw_const r_10_weigh_54 ?_
            refine pw_icmp_ge r_10_weigh_55 (fun h55 => ?_) (fun h55 => ?_)
            · skip
              refine pw_vret r_10_weigh_197 rfl (Nat.le_refl _) ⟨rfl, ?_⟩
              exact hP g1 (fun c a b => hg1 c a b) (fun l1 j1 a1 a2 a3 a4 => hw1 l1 j1 a1 a3 ⟨by omega, a4⟩)
            · skip
              have hn6 := hof la hl.1 (by omega)
              refine pw_const r_10_weigh_58 ?_
              refine pw_istore (ls' := [some (vR 10 (0)), some (vI (gF G 1 (0) 2)), some (vI (la)), some (vI (0)), none]) r_10_weigh_59 rfl rfl ?_
              have L60 : ∀ (nF : Nat) (i2 : Int) (g2 : WQ), (hi2 : 0 ≤ i2 ∧ i2 ≤ (gA G 94 0 (la))) → (hg2 : ∀ c, 0 ≤ c → c < 16 → g2.2.1 c = cgC G c ∧ g2.2.2.1 c = ciC G c 1) → (hw2 : ∀ l1 j1, 0 ≤ l1 → 0 ≤ j1 → ((l1 < la ∧ j1 < (gA G 94 0 (l1))) ∨ (l1 = la ∧ j1 < i2)) → wOk (fun p => (gF G 3 (p) 8)) (fun p => ST p (gF G 1 0 2) (gF G 1 0 2)) (fun p => WT p 0 (gF G 1 0 2) (gF G 1 0 2)) (fun p => WT p 1 (gF G 1 0 2) (gF G 1 0 2)) (gA G 93) g2.2.2.2.1 g2.2.2.2.2 (l1) (j1)) → ((gA G 94 0 (la)) - i2).toNat < nF → PW l w M_X10_weigh (d + 130) 60 [some (vR 10 (0)), some (vI (gF G 1 (0) 2)), some (vI (la)), some (vI (i2)), none] [] (wghC G g2) P := by
                intro nF
                induction nF with
                | zero => intro _ _ _ _ _ hM; exact absurd hM (Nat.not_lt_zero _)
                | succ nF ih60 =>
                  intro i2 g2 hi2 hg2 hw2 hM60
                  have hn7 := hof la hl.1 (by omega)
                  refine pw_iload r_10_weigh_60 rfl ?_
                  refine pw_aload r_10_weigh_61 rfl ?_
                  refine pw_getR r_10_weigh_62 fs_10_3 (by decide) ?_
                  refine pw_iload r_10_weigh_65 rfl ?_
                  refine pw_ialdv (v := gA G 94 (0) (la)) r_10_weigh_66 sh94 (by omega) (by omega) (by first | rfl | simp [gF_sF, gF_sA, gF_uA, gF_sD, gA_sF, gA_sA, gA_uA, gA_sD, gD_sF, gD_sA, gD_uA, gD_sD]) ?_
                  refine pw_icmp_ge r_10_weigh_67 (fun h67 => ?_) (fun h67 => ?_)
                  · skip
                    refine pw_iinc (b := 0) (ls' := [some (vR 10 (0)), some (vI (gF G 1 (0) 2)), some (vI ((la + 1))), some (vI (i2)), none]) r_10_weigh_191 rfl rfl (by omega) rfl ?_
                    refine pw_goto r_10_weigh_194 ?_
                    refine pw_weakL (ls' := [some (vR 10 (0)), some (vI (gF G 1 (0) 2)), some (vI ((la + 1))), none, none]) (⟨rfl, ⟨rfl, ⟨rfl, trivial⟩⟩⟩) ?_
                    exact ih53 ((la + 1)) (g2) (by first | assumption | omega) (hg2) (fun l1 j1 a1 a2 a3 => hw2 l1 j1 a1 a2 (by rcases (show l1 < la ∨ l1 = la by omega) with z | z; exact Or.inl ⟨z, a3.2⟩; exact Or.inr ⟨z, by have h9 := a3.2; rw [z] at h9; omega⟩)) (by omega)
                  · skip
                    refine pw_aload r_10_weigh_70 rfl ?_
                    refine pw_getR r_10_weigh_71 fs_10_0 (by decide) ?_
                    refine pw_aload r_10_weigh_74 rfl ?_
                    refine pw_getR r_10_weigh_75 fs_10_2 (by decide) ?_
                    refine pw_iload r_10_weigh_78 rfl ?_
                    refine pw_aaldS r_10_weigh_79 sh92 (by decide) (by decide) aS92 rw93 (by omega) (by omega) ?_
                    refine pw_iload r_10_weigh_80 rfl ?_
                    refine pw_ialdv (v := gA G 93 (la) (i2)) r_10_weigh_81 sh93 (by omega) (by omega) (by first | rfl | simp [gF_sF, gF_sA, gF_uA, gF_sD, gA_sF, gA_sA, gA_uA, gA_sD, gD_sF, gD_sA, gD_uA, gD_sD]) ?_
                    refine pw_callV (av := [vI (gA G 93 (la) (i2))]) (st := []) (ls0 := [some (vR 1 (0)), some (vI (gA G 93 (la) (i2)))]) r_10_weigh_82 rfl rfl rfl (Nat.le_refl _) ?_
                    refine sp_X1_get (by first | assumption | exact hp | omega) (by first | assumption | exact hsz | omega) ?_ ?_
                    · skip
                      exact fun q9 => absurd (hlv la i2 hl.1 (by omega) hi2.1 (by omega)) q9
                    · skip
                      intro q8
                      refine pw_astore (ls' := [some (vR 10 (0)), some (vI (gF G 1 (0) 2)), some (vI (la)), some (vI (i2)), some (vR 3 ((gA G 93 (la) (i2))))]) r_10_weigh_85 rfl rfl ?_
                      refine pw_aload r_10_weigh_87 rfl ?_
                      refine pw_ifnull r_10_weigh_89 (fun q => by cases q) (fun _ _ => ?_)
                      refine pw_aload r_10_weigh_92 rfl ?_
                      refine pw_getIv (v := gF G 3 ((gA G 93 (la) (i2))) 8) r_10_weigh_94 fs_3_8 (by decide) (by first | rfl | simp [gF_sF, gF_sA, gF_uA, gF_sD, gA_sF, gA_sA, gA_uA, gA_sD, gD_sF, gD_sA, gD_uA, gD_sD]) ?_
                      refine pw_if_eq r_10_weigh_97 (fun h97 => ?_) (fun h97 => ?_)
                      · skip
                        refine pw_aload r_10_weigh_112 rfl ?_
                        refine pw_getR r_10_weigh_113 fs_10_6 (by decide) ?_
                        refine pw_iload r_10_weigh_116 rfl ?_
                        refine pw_aaldS r_10_weigh_117 sh96 (by decide) (by decide) aS96 rw97 (by omega) (by omega) ?_
                        refine pw_iload r_10_weigh_118 rfl ?_
                        refine pw_aload r_10_weigh_119 rfl ?_
                        refine pw_getR r_10_weigh_120 fs_10_1 (by decide) ?_
                        refine pw_aload r_10_weigh_123 rfl ?_
                        refine pw_iload r_10_weigh_125 rfl ?_
                        refine pw_iload r_10_weigh_126 rfl ?_
                        refine pw_callV (av := [vR 3 ((gA G 93 (la) (i2))), vI (gF G 1 (0) 2), vI (gF G 1 (0) 2)]) (st := [vI (i2), vR 97 (la)]) (ls0 := [some (vR 8 (0)), some (vR 3 ((gA G 93 (la) (i2)))), some (vI (gF G 1 (0) 2)), some (vI (gF G 1 (0) 2)), none]) r_10_weigh_127 rfl rfl rfl (Nat.le_refl _) ?_
                        refine sp_X8_allowStay (SD := SD) (FC := FC) (KC := KC) (ST := ST) (by exact hp) (by exact hsz) (by exact hf) (by exact hpr) (by exact htx) (by exact hTX) (by exact hSD) (by exact hFC) (by exact hKC) (by exact hnA) (by exact hcA) (by exact hsA) (hlv la i2 hl.1 (by omega) hi2.1 (by omega)) (hdd) (by exact hST) ?_
                        intro q1
                        refine pw_if_eqB r_10_weigh_130 (fun h130 => ?_) (fun h130 => ?_)
                        · skip
                          refine pw_const r_10_weigh_137 ?_
                          refine pw_iast r_10_weigh_138 sh97 (by omega) (by omega) ?_
                          refine pw_aload r_10_weigh_139 rfl ?_
                          refine pw_getR r_10_weigh_140 fs_10_7 (by decide) ?_
                          refine pw_const r_10_weigh_143 ?_
                          refine pw_iload r_10_weigh_144 rfl ?_
                          refine pw_imul r_10_weigh_145 (by omega) ?_
                          refine pw_aaldS r_10_weigh_146 sh98 (by decide) (by decide) aS98 rw99 (by omega) (by omega) ?_
                          refine pw_iload r_10_weigh_147 rfl ?_
                          refine pw_aload r_10_weigh_148 rfl ?_
                          refine pw_getR r_10_weigh_149 fs_10_1 (by decide) ?_
                          refine pw_aload r_10_weigh_152 rfl ?_
                          refine pw_const r_10_weigh_154 ?_
                          refine pw_iload r_10_weigh_155 rfl ?_
                          refine pw_iload r_10_weigh_156 rfl ?_
                          refine pw_callV (av := [vR 3 ((gA G 93 (la) (i2))), vI (0), vI (gF G 1 (0) 2), vI (gF G 1 (0) 2)]) (st := [vI (i2), vR 99 ((2 * la))]) (ls0 := [some (vR 8 (0)), some (vR 3 ((gA G 93 (la) (i2)))), some (vI (0)), some (vI (gF G 1 (0) 2)), some (vI (gF G 1 (0) 2)), none]) r_10_weigh_157 rfl rfl rfl (Nat.le_refl _) ?_
                          refine sp_X8_rate (SD := SD) (FC := FC) (KC := KC) (WT := WT) (by exact hp) (by exact hsz) (by exact hf) (by exact hpr) (by exact htx) (by exact hTX) (by exact hSD) (by exact hFC) (by exact hKC) (by exact hnA) (by exact hcA) (by exact hsA) (hlv la i2 hl.1 (by omega) hi2.1 (by omega)) (by omega) (hdd) (by exact hWT) ?_
                          intro q2
                          refine pw_iast r_10_weigh_160 sh99 (by omega) (by omega) ?_
                          refine pw_aload r_10_weigh_161 rfl ?_
                          refine pw_getR r_10_weigh_162 fs_10_7 (by decide) ?_
                          refine pw_const r_10_weigh_165 ?_
                          refine pw_iload r_10_weigh_166 rfl ?_
                          refine pw_imul r_10_weigh_167 (by omega) ?_
                          refine pw_const r_10_weigh_168 ?_
                          refine pw_iadd r_10_weigh_169 (by omega) ?_
                          refine pw_aaldS r_10_weigh_170 sh98 (by decide) (by decide) aS98 rw99 (by omega) (by omega) ?_
                          refine pw_iload r_10_weigh_171 rfl ?_
                          refine pw_aload r_10_weigh_172 rfl ?_
                          refine pw_getR r_10_weigh_173 fs_10_1 (by decide) ?_
                          refine pw_aload r_10_weigh_176 rfl ?_
                          refine pw_const r_10_weigh_178 ?_
                          refine pw_iload r_10_weigh_179 rfl ?_
                          refine pw_iload r_10_weigh_180 rfl ?_
                          refine pw_callV (av := [vR 3 ((gA G 93 (la) (i2))), vI (1), vI (gF G 1 (0) 2), vI (gF G 1 (0) 2)]) (st := [vI (i2), vR 99 (((2 * la) + 1))]) (ls0 := [some (vR 8 (0)), some (vR 3 ((gA G 93 (la) (i2)))), some (vI (1)), some (vI (gF G 1 (0) 2)), some (vI (gF G 1 (0) 2)), none]) r_10_weigh_181 rfl rfl rfl (Nat.le_refl _) ?_
                          refine sp_X8_rate (SD := SD) (FC := FC) (KC := KC) (WT := WT) (by exact hp) (by exact hsz) (by exact hf) (by exact hpr) (by exact htx) (by exact hTX) (by exact hSD) (by exact hFC) (by exact hKC) (by exact hnA) (by exact hcA) (by exact hsA) (hlv la i2 hl.1 (by omega) hi2.1 (by omega)) (by omega) (hdd) (by exact hWT) ?_
                          intro q3
                          refine pw_iast r_10_weigh_184 sh99 (by omega) (by omega) ?_
                          refine pw_iinc (b := 0) (ls' := [some (vR 10 (0)), some (vI (gF G 1 (0) 2)), some (vI (la)), some (vI ((i2 + 1))), some (vR 3 ((gA G 93 (la) (i2))))]) r_10_weigh_185 rfl rfl (by omega) rfl ?_
                          refine pw_goto r_10_weigh_188 ?_
                          refine pw_weakL (ls' := [some (vR 10 (0)), some (vI (gF G 1 (0) 2)), some (vI (la)), some (vI ((i2 + 1))), none]) (⟨rfl, ⟨rfl, ⟨rfl, ⟨rfl, trivial⟩⟩⟩⟩) ?_
                          refine pw_eqG (G' := wghC G (q3, g2.2.1, g2.2.2.1, upW g2.2.2.2.1 (la) (i2) (0), upW (upW g2.2.2.2.2 (2 * la) (i2) (WT (gA G 93 (la) (i2)) 0 (gF G 1 0 2) (gF G 1 0 2))) (2 * la + 1) (i2) (WT (gA G 93 (la) (i2)) 1 (gF G 1 0 2) (gF G 1 0 2)))) (by first | (rw [wgh_A97]; done) | (rw [wgh_rst, wgh_A97, wgh_rst, wgh_A99, wgh_rst, wgh_A99])) ?_
                          exact ih60 ((i2 + 1)) ((q3, g2.2.1, g2.2.2.1, upW g2.2.2.2.1 (la) (i2) (0), upW (upW g2.2.2.2.2 (2 * la) (i2) (WT (gA G 93 (la) (i2)) 0 (gF G 1 0 2) (gF G 1 0 2))) (2 * la + 1) (i2) (WT (gA G 93 (la) (i2)) 1 (gF G 1 0 2) (gF G 1 0 2)))) (by first | assumption | omega) (fun c a b => hg2 c a b) (by intro l1 j1 a1 a2 a3; by_cases z : l1 = la ∧ j1 = i2; rw [z.1, z.2]; (first | exact wOk_new1 (by assumption) | exact wOk_new2 (by omega) (by first | exact Or.inl ⟨by assumption, rfl⟩ | exact Or.inr ⟨by assumption, rfl⟩)); first | exact wOk_old1 z (hw2 l1 j1 a1 a2 (by omega)) | exact wOk_old2 z (hw2 l1 j1 a1 a2 (by omega))) (by omega)
                        · skip
                          refine pw_const r_10_weigh_133 ?_
                          refine pw_goto r_10_weigh_134 ?_
                          refine pw_iast r_10_weigh_138 sh97 (by omega) (by omega) ?_
                          refine pw_aload r_10_weigh_139 rfl ?_
                          refine pw_getR r_10_weigh_140 fs_10_7 (by decide) ?_
                          refine pw_const r_10_weigh_143 ?_
                          refine pw_iload r_10_weigh_144 rfl ?_
                          refine pw_imul r_10_weigh_145 (by omega) ?_
                          refine pw_aaldS r_10_weigh_146 sh98 (by decide) (by decide) aS98 rw99 (by omega) (by omega) ?_
                          refine pw_iload r_10_weigh_147 rfl ?_
                          refine pw_aload r_10_weigh_148 rfl ?_
                          refine pw_getR r_10_weigh_149 fs_10_1 (by decide) ?_
                          refine pw_aload r_10_weigh_152 rfl ?_
                          refine pw_const r_10_weigh_154 ?_
                          refine pw_iload r_10_weigh_155 rfl ?_
                          refine pw_iload r_10_weigh_156 rfl ?_
                          refine pw_callV (av := [vR 3 ((gA G 93 (la) (i2))), vI (0), vI (gF G 1 (0) 2), vI (gF G 1 (0) 2)]) (st := [vI (i2), vR 99 ((2 * la))]) (ls0 := [some (vR 8 (0)), some (vR 3 ((gA G 93 (la) (i2)))), some (vI (0)), some (vI (gF G 1 (0) 2)), some (vI (gF G 1 (0) 2)), none]) r_10_weigh_157 rfl rfl rfl (Nat.le_refl _) ?_
                          refine sp_X8_rate (SD := SD) (FC := FC) (KC := KC) (WT := WT) (by exact hp) (by exact hsz) (by exact hf) (by exact hpr) (by exact htx) (by exact hTX) (by exact hSD) (by exact hFC) (by exact hKC) (by exact hnA) (by exact hcA) (by exact hsA) (hlv la i2 hl.1 (by omega) hi2.1 (by omega)) (by omega) (hdd) (by exact hWT) ?_
                          intro q2
                          refine pw_iast r_10_weigh_160 sh99 (by omega) (by omega) ?_
                          refine pw_aload r_10_weigh_161 rfl ?_
                          refine pw_getR r_10_weigh_162 fs_10_7 (by decide) ?_
                          refine pw_const r_10_weigh_165 ?_
                          refine pw_iload r_10_weigh_166 rfl ?_
                          refine pw_imul r_10_weigh_167 (by omega) ?_
                          refine pw_const r_10_weigh_168 ?_
                          refine pw_iadd r_10_weigh_169 (by omega) ?_
                          refine pw_aaldS r_10_weigh_170 sh98 (by decide) (by decide) aS98 rw99 (by omega) (by omega) ?_
                          refine pw_iload r_10_weigh_171 rfl ?_
                          refine pw_aload r_10_weigh_172 rfl ?_
                          refine pw_getR r_10_weigh_173 fs_10_1 (by decide) ?_
                          refine pw_aload r_10_weigh_176 rfl ?_
                          refine pw_const r_10_weigh_178 ?_
                          refine pw_iload r_10_weigh_179 rfl ?_
                          refine pw_iload r_10_weigh_180 rfl ?_
                          refine pw_callV (av := [vR 3 ((gA G 93 (la) (i2))), vI (1), vI (gF G 1 (0) 2), vI (gF G 1 (0) 2)]) (st := [vI (i2), vR 99 (((2 * la) + 1))]) (ls0 := [some (vR 8 (0)), some (vR 3 ((gA G 93 (la) (i2)))), some (vI (1)), some (vI (gF G 1 (0) 2)), some (vI (gF G 1 (0) 2)), none]) r_10_weigh_181 rfl rfl rfl (Nat.le_refl _) ?_
                          refine sp_X8_rate (SD := SD) (FC := FC) (KC := KC) (WT := WT) (by exact hp) (by exact hsz) (by exact hf) (by exact hpr) (by exact htx) (by exact hTX) (by exact hSD) (by exact hFC) (by exact hKC) (by exact hnA) (by exact hcA) (by exact hsA) (hlv la i2 hl.1 (by omega) hi2.1 (by omega)) (by omega) (hdd) (by exact hWT) ?_
                          intro q3
                          refine pw_iast r_10_weigh_184 sh99 (by omega) (by omega) ?_
                          refine pw_iinc (b := 0) (ls' := [some (vR 10 (0)), some (vI (gF G 1 (0) 2)), some (vI (la)), some (vI ((i2 + 1))), some (vR 3 ((gA G 93 (la) (i2))))]) r_10_weigh_185 rfl rfl (by omega) rfl ?_
                          refine pw_goto r_10_weigh_188 ?_
                          refine pw_weakL (ls' := [some (vR 10 (0)), some (vI (gF G 1 (0) 2)), some (vI (la)), some (vI ((i2 + 1))), none]) (⟨rfl, ⟨rfl, ⟨rfl, ⟨rfl, trivial⟩⟩⟩⟩) ?_
                          refine pw_eqG (G' := wghC G (q3, g2.2.1, g2.2.2.1, upW g2.2.2.2.1 (la) (i2) (2), upW (upW g2.2.2.2.2 (2 * la) (i2) (WT (gA G 93 (la) (i2)) 0 (gF G 1 0 2) (gF G 1 0 2))) (2 * la + 1) (i2) (WT (gA G 93 (la) (i2)) 1 (gF G 1 0 2) (gF G 1 0 2)))) (by first | (rw [wgh_A97]; done) | (rw [wgh_rst, wgh_A97, wgh_rst, wgh_A99, wgh_rst, wgh_A99])) ?_
                          exact ih60 ((i2 + 1)) ((q3, g2.2.1, g2.2.2.1, upW g2.2.2.2.1 (la) (i2) (2), upW (upW g2.2.2.2.2 (2 * la) (i2) (WT (gA G 93 (la) (i2)) 0 (gF G 1 0 2) (gF G 1 0 2))) (2 * la + 1) (i2) (WT (gA G 93 (la) (i2)) 1 (gF G 1 0 2) (gF G 1 0 2)))) (by first | assumption | omega) (fun c a b => hg2 c a b) (by intro l1 j1 a1 a2 a3; by_cases z : l1 = la ∧ j1 = i2; rw [z.1, z.2]; (first | exact wOk_new1 (by assumption) | exact wOk_new2 (by omega) (by first | exact Or.inl ⟨by assumption, rfl⟩ | exact Or.inr ⟨by assumption, rfl⟩)); first | exact wOk_old1 z (hw2 l1 j1 a1 a2 (by omega)) | exact wOk_old2 z (hw2 l1 j1 a1 a2 (by omega))) (by omega)
                      · skip
                        refine pw_aload r_10_weigh_100 rfl ?_
                        refine pw_getR r_10_weigh_101 fs_10_6 (by decide) ?_
                        refine pw_iload r_10_weigh_104 rfl ?_
                        refine pw_aaldS r_10_weigh_105 sh96 (by decide) (by decide) aS96 rw97 (by omega) (by omega) ?_
                        refine pw_iload r_10_weigh_106 rfl ?_
                        refine pw_const r_10_weigh_107 ?_
                        refine pw_iast r_10_weigh_108 sh97 (by omega) (by omega) ?_
                        refine pw_goto r_10_weigh_109 ?_
                        refine pw_iinc (b := 0) (ls' := [some (vR 10 (0)), some (vI (gF G 1 (0) 2)), some (vI (la)), some (vI ((i2 + 1))), some (vR 3 ((gA G 93 (la) (i2))))]) r_10_weigh_185 rfl rfl (by omega) rfl ?_
                        refine pw_goto r_10_weigh_188 ?_
                        refine pw_weakL (ls' := [some (vR 10 (0)), some (vI (gF G 1 (0) 2)), some (vI (la)), some (vI ((i2 + 1))), none]) (⟨rfl, ⟨rfl, ⟨rfl, ⟨rfl, trivial⟩⟩⟩⟩) ?_
                        refine pw_eqG (G' := wghC G (g2.1, g2.2.1, g2.2.2.1, upW g2.2.2.2.1 (la) (i2) (1), g2.2.2.2.2)) (by first | (rw [wgh_A97]; done) | (rw [wgh_rst, wgh_A97, wgh_rst, wgh_A99, wgh_rst, wgh_A99])) ?_
                        exact ih60 ((i2 + 1)) ((g2.1, g2.2.1, g2.2.2.1, upW g2.2.2.2.1 (la) (i2) (1), g2.2.2.2.2)) (by first | assumption | omega) (fun c a b => hg2 c a b) (by intro l1 j1 a1 a2 a3; by_cases z : l1 = la ∧ j1 = i2; rw [z.1, z.2]; (first | exact wOk_new1 (by assumption) | exact wOk_new2 (by omega) (by first | exact Or.inl ⟨by assumption, rfl⟩ | exact Or.inr ⟨by assumption, rfl⟩)); first | exact wOk_old1 z (hw2 l1 j1 a1 a2 (by omega)) | exact wOk_old2 z (hw2 l1 j1 a1 a2 (by omega))) (by omega)
              exact L60 _ (0) (g1) (by first | assumption | omega) (hg1) (fun l1 j1 a1 a2 a3 => hw1 l1 j1 a1 a2 (by omega)) (Nat.lt_succ_self _)
        exact L53 _ (0) (g0) (by first | assumption | omega) (fun c a b => hg c a (by omega)) (fun l1 j1 a1 a2 a3 => by omega) (Nat.lt_succ_self _)
      · skip
        refine pw_aload r_10_weigh_16 rfl ?_
        refine pw_getR r_10_weigh_17 fs_10_8 (by decide) ?_
        refine pw_iload r_10_weigh_20 rfl ?_
        refine pw_aload r_10_weigh_21 rfl ?_
        refine pw_getR r_10_weigh_22 fs_10_0 (by decide) ?_
        refine pw_iload r_10_weigh_25 rfl ?_
        refine pw_callV (av := [vI (x0)]) (st := [vI (x0), vR 100 (0)]) (ls0 := [some (vR 1 (0)), some (vI (x0)), none, none, none]) r_10_weigh_26 rfl rfl rfl (Nat.le_refl _) ?_
        refine sp_X1_countGraded (by first | assumption | exact hp | omega) (by first | assumption | exact hsz | omega) ?_
        refine pw_top (b := cnt (fun i => ((gF G 3 (i) 8) = 0 ∧ (gF G 3 (i) 10) = x0) ∧ 0 < (gF G 3 (i) 6)) (gF G 1 (0) 1)) (by first | rfl | simp (disch := decide) [gF_sF, gF_sA, gF_uA, gF_sD, gA_sF, gA_sA, gA_uA, gA_sD, gD_sF, gD_sA, gD_uA, gD_sD]) ?_
        refine pw_top (b := cgC G x0) (rfl) ?_
        refine pw_iast r_10_weigh_29 sh100 (by omega) (by omega) ?_
        refine pw_aload r_10_weigh_30 rfl ?_
        refine pw_getR r_10_weigh_31 fs_10_9 (by decide) ?_
        refine pw_iload r_10_weigh_34 rfl ?_
        refine pw_aload r_10_weigh_35 rfl ?_
        refine pw_getR r_10_weigh_36 fs_10_0 (by decide) ?_
        refine pw_iload r_10_weigh_39 rfl ?_
        refine pw_const r_10_weigh_40 ?_
        refine pw_callV (av := [vI (x0), vI (1)]) (st := [vI (x0), vR 101 (0)]) (ls0 := [some (vR 1 (0)), some (vI (x0)), some (vI (1)), none, none, none]) r_10_weigh_41 rfl rfl rfl (Nat.le_refl _) ?_
        refine sp_X1_countIn (by first | assumption | exact hp | omega) (by first | assumption | exact hsz | omega) ?_
        refine pw_top (b := cnt (fun i => ((gF G 3 (i) 8) = 0 ∧ (gF G 3 (i) 10) = x0) ∧ ((1 : Int) = 0 ∨ (gF G 3 (i) 1) = 3)) (gF G 1 (0) 1)) (by first | rfl | simp (disch := decide) [gF_sF, gF_sA, gF_uA, gF_sD, gA_sF, gA_sA, gA_uA, gA_sD, gD_sF, gD_sA, gD_uA, gD_sD]) ?_
        refine pw_top (b := ciC G x0 1) (rfl) ?_
        refine pw_iast r_10_weigh_44 sh101 (by omega) (by omega) ?_
        refine pw_iinc (b := 0) (ls' := [some (vR 10 (0)), some (vI (gF G 1 (0) 2)), some (vI ((x0 + 1))), none, none]) r_10_weigh_45 rfl rfl (by omega) rfl ?_
        refine pw_goto r_10_weigh_48 ?_
        refine pw_eqG (G' := wghC G (g0.1, upA g0.2.1 x0 (cgC G x0), upA g0.2.2.1 x0 (ciC G x0 1), g0.2.2.2)) (by rw [wgh_gr, wgh_dr]) ?_
        exact ih10 ((x0 + 1)) ((g0.1, upA g0.2.1 x0 (cgC G x0), upA g0.2.2.1 x0 (ciC G x0 1), g0.2.2.2)) (by first | assumption | omega) (by intro c c0 c1; by_cases z : c = x0; rw [z]; exact ⟨upA_same _ _ _, upA_same _ _ _⟩; exact ⟨(upA_ne z).trans (hg c c0 (by omega)).1, (upA_ne z).trans (hg c c0 (by omega)).2⟩) (by omega)
  refine pw_eqG (G' := wghC G (wghQ G)) ((wgh_self G).symm) ?_
  exact L10 _ (0) ((wghQ G)) (by first | assumption | omega) (fun c a b => by omega) (Nat.lt_succ_self _)
set_option maxRecDepth 10000 in
theorem sp_X10_isIn {l : Launch} {w : Wo} {d : Nat} {G : PH} {P : Option PV → PH → Prop} {set i : Int} (hP : P (some (vI (b2i (bt set i)))) G) : PW l w M_X10_isIn (d + 0) 0 [some (vI (set)), some (vI (i))] [] G P := by
  refine pw_iload r_10_isIn_0 rfl ?_
  refine pw_iload r_10_isIn_1 rfl ?_
  refine pw_ishr r_10_isIn_2 ?_
  refine pw_const r_10_isIn_3 ?_
  refine pw_iand r_10_isIn_4 ?_
  refine pw_if_eq r_10_isIn_5 (fun h05 => ?_) (fun h05 => ?_)
  · skip
    refine pw_const r_10_isIn_12 ?_
    refine pw_zret r_10_isIn_13 rfl (Or.inl rfl) (Nat.le_refl _) ⟨rfl, ?_⟩
    exact pe hP (by unfold bt; first | exact (b2i_t (by omega)).symm | exact (b2i_f (by omega)).symm)
  · skip
    refine pw_const r_10_isIn_8 ?_
    refine pw_goto r_10_isIn_9 ?_
    refine pw_zret r_10_isIn_13 rfl (Or.inr rfl) (Nat.le_refl _) ⟨rfl, ?_⟩
    exact pe hP (by unfold bt; first | exact (b2i_t (by omega)).symm | exact (b2i_f (by omega)).symm)
set_option maxRecDepth 10000 in
theorem sp_X10_isSetOf {l : Launch} {w : Wo} {d : Nat} {G : PH} {P : Option PV → PH → Prop} {la set : Int} (hl : 0 ≤ la ∧ la < 2) (hP : P (some (vI (b2i (0 ≤ set ∧ set < pShl 1 (gA G 94 0 (la)))))) G) : PW l w M_X10_isSetOf (d + 0) 0 [some (vR 10 (0)), some (vI (la)), some (vI (set))] [] G P := by
  refine pw_iload r_10_isSetOf_0 rfl ?_
  refine pw_if_lt r_10_isSetOf_1 (fun h01 => ?_) (fun h01 => ?_)
  · skip
    refine pw_const r_10_isSetOf_20 ?_
    refine pw_zret r_10_isSetOf_21 rfl (Or.inl rfl) (Nat.le_refl _) ⟨rfl, ?_⟩
    exact pe hP (by first | rfl | omega | exact (b2i_t (by omega)).symm | exact (b2i_f (by omega)).symm)
  · skip
    refine pw_iload r_10_isSetOf_4 rfl ?_
    refine pw_const r_10_isSetOf_5 ?_
    refine pw_aload r_10_isSetOf_6 rfl ?_
    refine pw_getR r_10_isSetOf_7 fs_10_3 (by decide) ?_
    refine pw_iload r_10_isSetOf_10 rfl ?_
    refine pw_iald r_10_isSetOf_11 sh94 (by omega) (by omega) ?_
    refine pw_ishl r_10_isSetOf_12 ?_
    refine pw_icmp_ge r_10_isSetOf_13 (fun h13 => ?_) (fun h13 => ?_)
    · skip
      refine pw_const r_10_isSetOf_20 ?_
      refine pw_zret r_10_isSetOf_21 rfl (Or.inl rfl) (Nat.le_refl _) ⟨rfl, ?_⟩
      exact pe hP (by first | rfl | omega | exact (b2i_t (by omega)).symm | exact (b2i_f (by omega)).symm)
    · skip
      refine pw_const r_10_isSetOf_16 ?_
      refine pw_goto r_10_isSetOf_17 ?_
      refine pw_zret r_10_isSetOf_21 rfl (Or.inr rfl) (Nat.le_refl _) ⟨rfl, ?_⟩
      exact pe hP (by first | rfl | omega | exact (b2i_t (by omega)).symm | exact (b2i_f (by omega)).symm)
set_option maxRecDepth 10000 in
theorem sp_X10_isBarred {l : Launch} {w : Wo} {d : Nat} {G : PH} {P : Option PV → PH → Prop} {la set bar : Int} (hl : 0 ≤ la ∧ la < 2) (hn : 0 ≤ (gA G 94 0 (la)) ∧ (gA G 94 0 (la)) ≤ 7) (hP : P (some (vI (b2i (∃ i, 0 ≤ i ∧ i < (gA G 94 0 (la)) ∧ bt set i ∧ (gA G 97 (la) (i)) = bar)))) G) : PW l w M_X10_isBarred (d + 1) 0 [some (vR 10 (0)), some (vI (la)), some (vI (set)), some (vI (bar)), none] [] G P := by
  refine pw_const r_10_isBarred_0 ?_
  refine pw_istore (ls' := [some (vR 10 (0)), some (vI (la)), some (vI (set)), some (vI (bar)), some (vI (0))]) r_10_isBarred_1 rfl rfl ?_
  have L3 : ∀ (nF : Nat) (i : Int), (hi : 0 ≤ i ∧ i ≤ (gA G 94 0 (la))) → (hno : ∀ j, 0 ≤ j → j < i → ¬ (bt set j ∧ (gA G 97 (la) (j)) = bar)) → ((gA G 94 0 (la)) - i).toNat < nF → PW l w M_X10_isBarred (d + 1) 3 [some (vR 10 (0)), some (vI (la)), some (vI (set)), some (vI (bar)), some (vI (i))] [] G P := by
    intro nF
    induction nF with
    | zero => intro _ _ _ hM; exact absurd hM (Nat.not_lt_zero _)
    | succ nF ih3 =>
      intro i hi hno hM3
      refine pw_iload r_10_isBarred_3 rfl ?_
      refine pw_aload r_10_isBarred_5 rfl ?_
      refine pw_getR r_10_isBarred_6 fs_10_3 (by decide) ?_
      refine pw_iload r_10_isBarred_9 rfl ?_
      refine pw_iald r_10_isBarred_10 sh94 (by omega) (by omega) ?_
      refine pw_icmp_ge r_10_isBarred_11 (fun h11 => ?_) (fun h11 => ?_)
      · skip
        refine pw_const r_10_isBarred_44 ?_
        refine pw_zret r_10_isBarred_45 rfl (Or.inl rfl) (Nat.le_refl _) ⟨rfl, ?_⟩
        exact pe hP (b2i_f (fun z => by obtain ⟨j, a, b, c⟩ := z; exact hno j a (by omega) c)).symm
      · skip
        refine pw_iload r_10_isBarred_14 rfl ?_
        refine pw_iload r_10_isBarred_15 rfl ?_
        refine pw_callS (av := [vI (set), vI (i)]) (st := []) (ls0 := [some (vI (set)), some (vI (i))]) r_10_isBarred_17 rfl rfl rfl (Nat.le_refl _) ?_
        refine sp_X10_isIn  ?_
        refine pw_if_eqB r_10_isBarred_20 (fun h20 => ?_) (fun h20 => ?_)
        · skip
          refine pw_iinc (b := 0) (ls' := [some (vR 10 (0)), some (vI (la)), some (vI (set)), some (vI (bar)), some (vI ((i + 1)))]) r_10_isBarred_38 rfl rfl (by omega) rfl ?_
          refine pw_goto r_10_isBarred_41 ?_
          exact ih3 ((i + 1)) (by first | assumption | omega) (fun j a b => by rcases (show j < i ∨ j = i by omega) with z | z; exact hno j a z; rw [z]; first | exact fun y => h20 y.1 | exact fun y => h33 y.2) (by omega)
        · skip
          refine pw_aload r_10_isBarred_23 rfl ?_
          refine pw_getR r_10_isBarred_24 fs_10_6 (by decide) ?_
          refine pw_iload r_10_isBarred_27 rfl ?_
          refine pw_aaldS r_10_isBarred_28 sh96 (by decide) (by decide) aS96 rw97 (by omega) (by omega) ?_
          refine pw_iload r_10_isBarred_29 rfl ?_
          refine pw_iald r_10_isBarred_31 sh97 (by omega) (by omega) ?_
          refine pw_iload r_10_isBarred_32 rfl ?_
          refine pw_icmp_ne r_10_isBarred_33 (fun h33 => ?_) (fun h33 => ?_)
          · skip
            refine pw_iinc (b := 0) (ls' := [some (vR 10 (0)), some (vI (la)), some (vI (set)), some (vI (bar)), some (vI ((i + 1)))]) r_10_isBarred_38 rfl rfl (by omega) rfl ?_
            refine pw_goto r_10_isBarred_41 ?_
            exact ih3 ((i + 1)) (by first | assumption | omega) (fun j a b => by rcases (show j < i ∨ j = i by omega) with z | z; exact hno j a z; rw [z]; first | exact fun y => h20 y.1 | exact fun y => h33 y.2) (by omega)
          · skip
            refine pw_const r_10_isBarred_36 ?_
            refine pw_zret r_10_isBarred_37 rfl (Or.inr rfl) (Nat.le_refl _) ⟨rfl, ?_⟩
            exact pe hP (b2i_t ⟨i, hi.1, by omega, h20, by omega⟩).symm
  exact L3 _ (0) (by first | assumption | omega) (fun j a b => by omega) (Nat.lt_succ_self _)
set_option maxRecDepth 10000 in
theorem sp_X10_sumWorth {l : Launch} {w : Wo} {d : Nat} {G : PH} {P : Option PV → PH → Prop} {la set s : Int} (hl : 0 ≤ la ∧ la < 2) (hn : 0 ≤ (gA G 94 0 (la)) ∧ (gA G 94 0 (la)) ≤ 7) (hs2 : 0 ≤ s ∧ s < 2) (hP : P (some (vI (smF (gA G 99 (2 * la + s)) set (gA G 94 0 (la))))) G) : PW l w M_X10_sumWorth (d + 1) 0 [some (vR 10 (0)), some (vI (la)), some (vI (set)), some (vI (s)), none, none] [] G P := by
  refine pw_const r_10_sumWorth_0 ?_
  refine pw_istore (ls' := [some (vR 10 (0)), some (vI (la)), some (vI (set)), some (vI (s)), some (vI (0)), none]) r_10_sumWorth_1 rfl rfl ?_
  refine pw_const r_10_sumWorth_3 ?_
  refine pw_istore (ls' := [some (vR 10 (0)), some (vI (la)), some (vI (set)), some (vI (s)), some (vI (0)), some (vI (0))]) r_10_sumWorth_4 rfl rfl ?_
  have L6 : ∀ (nF : Nat) (i n : Int), (hi : 0 ≤ i ∧ i ≤ (gA G 94 0 (la))) → (hm : n = smF (gA G 99 (2 * la + s)) set i) → ((gA G 94 0 (la)) - i).toNat < nF → PW l w M_X10_sumWorth (d + 1) 6 [some (vR 10 (0)), some (vI (la)), some (vI (set)), some (vI (s)), some (vI (n)), some (vI (i))] [] G P := by
    intro nF
    induction nF with
    | zero => intro _ _ _ _ hM; exact absurd hM (Nat.not_lt_zero _)
    | succ nF ih6 =>
      intro i n hi hm hM6
      refine pw_iload r_10_sumWorth_6 rfl ?_
      refine pw_aload r_10_sumWorth_8 rfl ?_
      refine pw_getR r_10_sumWorth_9 fs_10_3 (by decide) ?_
      refine pw_iload r_10_sumWorth_12 rfl ?_
      refine pw_iald r_10_sumWorth_13 sh94 (by omega) (by omega) ?_
      refine pw_icmp_ge r_10_sumWorth_14 (fun h14 => ?_) (fun h14 => ?_)
      · skip
        refine pw_iload r_10_sumWorth_50 rfl ?_
        refine pw_iret r_10_sumWorth_52 rfl (Nat.le_refl _) ⟨rfl, ?_⟩
        rw [show (gA G 94 0 (la)) = i by omega] at hP
        exact pe hP hm
      · skip
        refine pw_iload r_10_sumWorth_17 rfl ?_
        refine pw_iload r_10_sumWorth_18 rfl ?_
        refine pw_callS (av := [vI (set), vI (i)]) (st := []) (ls0 := [some (vI (set)), some (vI (i))]) r_10_sumWorth_20 rfl rfl rfl (Nat.le_refl _) ?_
        refine sp_X10_isIn  ?_
        refine pw_if_eqB r_10_sumWorth_23 (fun h23 => ?_) (fun h23 => ?_)
        · skip
          refine pw_iinc (b := 0) (ls' := [some (vR 10 (0)), some (vI (la)), some (vI (set)), some (vI (s)), some (vI (n)), some (vI ((i + 1)))]) r_10_sumWorth_44 rfl rfl (by omega) rfl ?_
          refine pw_goto r_10_sumWorth_47 ?_
          exact ih6 ((i + 1)) (n) (by first | assumption | omega) (by first | (rw [sm_t hi.1 h23, ← hm]; done) | (rw [sm_f hi.1 h23]; exact hm)) (by omega)
        · skip
          refine pw_iload r_10_sumWorth_26 rfl ?_
          refine pw_aload r_10_sumWorth_28 rfl ?_
          refine pw_getR r_10_sumWorth_29 fs_10_7 (by decide) ?_
          refine pw_const r_10_sumWorth_32 ?_
          refine pw_iload r_10_sumWorth_33 rfl ?_
          refine pw_imul r_10_sumWorth_34 (by omega) ?_
          refine pw_iload r_10_sumWorth_35 rfl ?_
          refine pw_iadd r_10_sumWorth_36 (by omega) ?_
          refine pw_aaldS r_10_sumWorth_37 sh98 (by decide) (by decide) aS98 rw99 (by omega) (by omega) ?_
          refine pw_iload r_10_sumWorth_38 rfl ?_
          refine pw_iald r_10_sumWorth_40 sh99 (by omega) (by omega) ?_
          refine pw_iaddW r_10_sumWorth_41 ?_
          refine pw_istore (ls' := [some (vR 10 (0)), some (vI (la)), some (vI (set)), some (vI (s)), some (vI (wr (n + (gA G 99 (((2 * la) + s)) (i))))), some (vI (i))]) r_10_sumWorth_42 rfl rfl ?_
          refine pw_iinc (b := 0) (ls' := [some (vR 10 (0)), some (vI (la)), some (vI (set)), some (vI (s)), some (vI (wr (n + (gA G 99 (((2 * la) + s)) (i))))), some (vI ((i + 1)))]) r_10_sumWorth_44 rfl rfl (by omega) rfl ?_
          refine pw_goto r_10_sumWorth_47 ?_
          exact ih6 ((i + 1)) (wr (n + (gA G 99 (((2 * la) + s)) (i)))) (by first | assumption | omega) (by first | (rw [sm_t hi.1 h23, ← hm]; done) | (rw [sm_f hi.1 h23]; exact hm)) (by omega)
  exact L6 _ (0) (0) (by first | assumption | omega) (rfl) (Nat.lt_succ_self _)
set_option maxRecDepth 10000 in
theorem sp_X10_partsChild {l : Launch} {w : Wo} {d : Nat} {G : PH} {P : Option PV → PH → Prop} {la set : Int} (hp : ∀ i, 0 ≤ i → i < (gF G 1 0 1) → gD G 30 0 i = some (3, i)) (hsz : 0 ≤ (gF G 1 0 1) ∧ (gF G 1 0 1) ≤ 150) (hl : 0 ≤ la ∧ la < 2) (hn : 0 ≤ (gA G 94 0 (la)) ∧ (gA G 94 0 (la)) ≤ 7) (hlv : ∀ i, 0 ≤ i → i < (gA G 94 0 (la)) → 0 ≤ (gA G 93 (la) (i)) ∧ (gA G 93 (la) (i)) < (gF G 1 0 1)) (hdi : ∀ i j, 0 ≤ i → i < j → j < (gA G 94 0 (la)) → (gA G 93 (la) (i)) ≠ (gA G 93 (la) (j))) (hP : P (some (vI (b2i (∃ i, 0 ≤ i ∧ i < (gA G 94 0 (la)) ∧ (0 ≤ (gF G 3 ((gA G 93 (la) (i))) 4) ∧ ∃ j, 0 ≤ j ∧ j < (gA G 94 0 (la)) ∧ (gA G 93 (la) (j)) = (gF G 3 ((gA G 93 (la) (i))) 4) ∧ ¬ (bt set i ↔ bt set j)))))) G) : PW l w M_X10_partsChild (d + 1) 0 [some (vR 10 (0)), some (vI (la)), some (vI (set)), none, none, none] [] G P := by
  refine pw_const r_10_partsChild_0 ?_
  refine pw_istore (ls' := [some (vR 10 (0)), some (vI (la)), some (vI (set)), some (vI (0)), none, none]) r_10_partsChild_1 rfl rfl ?_
  have L2 : ∀ (nF : Nat) (i : Int), (hi : 0 ≤ i ∧ i ≤ (gA G 94 0 (la))) → (hno : ∀ j, 0 ≤ j → j < i → ¬ (0 ≤ (gF G 3 ((gA G 93 (la) (j))) 4) ∧ ∃ k, 0 ≤ k ∧ k < (gA G 94 0 (la)) ∧ (gA G 93 (la) (k)) = (gF G 3 ((gA G 93 (la) (j))) 4) ∧ ¬ (bt set j ↔ bt set k))) → ((gA G 94 0 (la)) - i).toNat < nF → PW l w M_X10_partsChild (d + 1) 2 [some (vR 10 (0)), some (vI (la)), some (vI (set)), some (vI (i)), none, none] [] G P := by
    intro nF
    induction nF with
    | zero => intro _ _ _ hM; exact absurd hM (Nat.not_lt_zero _)
    | succ nF ih2 =>
      intro i hi hno hM2
      refine pw_iload r_10_partsChild_2 rfl ?_
      refine pw_aload r_10_partsChild_3 rfl ?_
      refine pw_getR r_10_partsChild_4 fs_10_3 (by decide) ?_
      refine pw_iload r_10_partsChild_7 rfl ?_
      refine pw_iald r_10_partsChild_8 sh94 (by omega) (by omega) ?_
      refine pw_icmp_ge r_10_partsChild_9 (fun h09 => ?_) (fun h09 => ?_)
      · skip
        refine pw_const r_10_partsChild_84 ?_
        refine pw_zret r_10_partsChild_85 rfl (Or.inl rfl) (Nat.le_refl _) ⟨rfl, ?_⟩
        exact pe hP (b2i_f (fun z => by obtain ⟨j, a, b, c⟩ := z; exact hno j a (by omega) c)).symm
      · skip
        refine pw_aload r_10_partsChild_12 rfl ?_
        refine pw_getR r_10_partsChild_13 fs_10_0 (by decide) ?_
        refine pw_aload r_10_partsChild_16 rfl ?_
        refine pw_getR r_10_partsChild_17 fs_10_2 (by decide) ?_
        refine pw_iload r_10_partsChild_20 rfl ?_
        refine pw_aaldS r_10_partsChild_21 sh92 (by decide) (by decide) aS92 rw93 (by omega) (by omega) ?_
        refine pw_iload r_10_partsChild_22 rfl ?_
        refine pw_iald r_10_partsChild_23 sh93 (by omega) (by omega) ?_
        refine pw_callV (av := [vI (gA G 93 (la) (i))]) (st := []) (ls0 := [some (vR 1 (0)), some (vI (gA G 93 (la) (i)))]) r_10_partsChild_24 rfl rfl rfl (Nat.le_refl _) ?_
        refine sp_X1_get (by first | assumption | exact hp | omega) (by first | assumption | exact hsz | omega) ?_ ?_
        · skip
          exact fun q9 => absurd (hlv i hi.1 (by omega)) q9
        · skip
          intro q8
          refine pw_astore (ls' := [some (vR 10 (0)), some (vI (la)), some (vI (set)), some (vI (i)), some (vR 3 ((gA G 93 (la) (i)))), none]) r_10_partsChild_27 rfl rfl ?_
          refine pw_aload r_10_partsChild_29 rfl ?_
          refine pw_ifnull r_10_partsChild_31 (fun q => by cases q) (fun _ _ => ?_)
          refine pw_aload r_10_partsChild_34 rfl ?_
          refine pw_getI r_10_partsChild_36 fs_3_4 (by decide) ?_
          refine pw_if_ge r_10_partsChild_39 (fun h39 => ?_) (fun h39 => ?_)
          · skip
            refine pw_aload r_10_partsChild_45 rfl ?_
            refine pw_iload r_10_partsChild_46 rfl ?_
            refine pw_aload r_10_partsChild_47 rfl ?_
            refine pw_getI r_10_partsChild_49 fs_3_4 (by decide) ?_
            refine pw_callV (av := [vI (la), vI (gF G 3 ((gA G 93 (la) (i))) 4)]) (st := []) (ls0 := [some (vR 10 (0)), some (vI (la)), some (vI (gF G 3 ((gA G 93 (la) (i))) 4)), none]) r_10_partsChild_52 rfl rfl rfl (Nat.le_refl _) ?_
            refine sp_X10_placeOf (s := la) (p := (gF G 3 ((gA G 93 (la) (i))) 4)) (hl) (hn) ?_ ?_
            · skip
              intro q7
              refine pw_istore (ls' := [some (vR 10 (0)), some (vI (la)), some (vI (set)), some (vI (i)), some (vR 3 ((gA G 93 (la) (i)))), some (vI (-1))]) r_10_partsChild_55 rfl rfl ?_
              refine pw_iload r_10_partsChild_57 rfl ?_
              refine pw_if_lt r_10_partsChild_59 (fun h59 => ?_) (fun h59 => absurd h59 (by decide))
              refine pw_iinc (b := 0) (ls' := [some (vR 10 (0)), some (vI (la)), some (vI (set)), some (vI ((i + 1))), some (vR 3 ((gA G 93 (la) (i)))), some (vI (-1))]) r_10_partsChild_78 rfl rfl (by omega) rfl ?_
              refine pw_goto r_10_partsChild_81 ?_
              refine pw_weakL (ls' := [some (vR 10 (0)), some (vI (la)), some (vI (set)), some (vI ((i + 1))), none, none]) (⟨rfl, ⟨rfl, ⟨rfl, ⟨rfl, trivial⟩⟩⟩⟩) ?_
              exact ih2 ((i + 1)) (by first | assumption | omega) (fun j a b => by rcases (show j < i ∨ j = i by omega) with z | z; exact hno j a z; rw [z]; rintro ⟨y1, k, y2, y3, y4, y5⟩; exact q7 k y2 y3 y4) (by omega)
            · skip
              intro o1 q4 q5 q6
              refine pw_istore (ls' := [some (vR 10 (0)), some (vI (la)), some (vI (set)), some (vI (i)), some (vR 3 ((gA G 93 (la) (i)))), some (vI (o1))]) r_10_partsChild_55 rfl rfl ?_
              refine pw_iload r_10_partsChild_57 rfl ?_
              refine pw_if_lt r_10_partsChild_59 (fun h59 => ?_) (fun h59 => ?_)
              · skip
                refine pw_iinc (b := 0) (ls' := [some (vR 10 (0)), some (vI (la)), some (vI (set)), some (vI ((i + 1))), some (vR 3 ((gA G 93 (la) (i)))), some (vI (o1))]) r_10_partsChild_78 rfl rfl (by omega) rfl ?_
                refine pw_goto r_10_partsChild_81 ?_
                refine pw_weakL (ls' := [some (vR 10 (0)), some (vI (la)), some (vI (set)), some (vI ((i + 1))), none, none]) (⟨rfl, ⟨rfl, ⟨rfl, ⟨rfl, trivial⟩⟩⟩⟩) ?_
                exact ih2 ((i + 1)) (by first | assumption | omega) (fun j a b => by rcases (show j < i ∨ j = i by omega) with z | z; exact hno j a z; rw [z]; rintro ⟨y1, k, y2, y3, y4, y5⟩; first | (exfalso; omega) | ((have e9 : k = o1 := by rcases Int.lt_trichotomy k o1 with q | q | q; exact absurd (y4.trans q6.symm) (hdi k o1 y2 q q5); exact q; exact absurd (q6.trans y4.symm) (hdi o1 k q4 q y3)); rw [e9] at y5; exact y5 (b2i_inj h73))) (by omega)
              · skip
                refine pw_iload r_10_partsChild_62 rfl ?_
                refine pw_iload r_10_partsChild_63 rfl ?_
                refine pw_callS (av := [vI (set), vI (i)]) (st := []) (ls0 := [some (vI (set)), some (vI (i))]) r_10_partsChild_64 rfl rfl rfl (Nat.le_refl _) ?_
                refine sp_X10_isIn  ?_
                refine pw_iload r_10_partsChild_67 rfl ?_
                refine pw_iload r_10_partsChild_68 rfl ?_
                refine pw_callS (av := [vI (set), vI (o1)]) (st := [vI (b2i (bt set i))]) (ls0 := [some (vI (set)), some (vI (o1))]) r_10_partsChild_70 rfl rfl rfl (Nat.le_refl _) ?_
                refine sp_X10_isIn  ?_
                refine pw_icmp_eq r_10_partsChild_73 (fun h73 => ?_) (fun h73 => ?_)
                · skip
                  refine pw_iinc (b := 0) (ls' := [some (vR 10 (0)), some (vI (la)), some (vI (set)), some (vI ((i + 1))), some (vR 3 ((gA G 93 (la) (i)))), some (vI (o1))]) r_10_partsChild_78 rfl rfl (by omega) rfl ?_
                  refine pw_goto r_10_partsChild_81 ?_
                  refine pw_weakL (ls' := [some (vR 10 (0)), some (vI (la)), some (vI (set)), some (vI ((i + 1))), none, none]) (⟨rfl, ⟨rfl, ⟨rfl, ⟨rfl, trivial⟩⟩⟩⟩) ?_
                  exact ih2 ((i + 1)) (by first | assumption | omega) (fun j a b => by rcases (show j < i ∨ j = i by omega) with z | z; exact hno j a z; rw [z]; rintro ⟨y1, k, y2, y3, y4, y5⟩; first | (exfalso; omega) | ((have e9 : k = o1 := by rcases Int.lt_trichotomy k o1 with q | q | q; exact absurd (y4.trans q6.symm) (hdi k o1 y2 q q5); exact q; exact absurd (q6.trans y4.symm) (hdi o1 k q4 q y3)); rw [e9] at y5; exact y5 (b2i_inj h73))) (by omega)
                · skip
                  refine pw_const r_10_partsChild_76 ?_
                  refine pw_zret r_10_partsChild_77 rfl (Or.inr rfl) (Nat.le_refl _) ⟨rfl, ?_⟩
                  exact pe hP (b2i_t ⟨i, hi.1, by omega, by omega, o1, q4, q5, q6, fun z => h73 (by rw [propext z])⟩).symm
          · skip
            refine pw_goto r_10_partsChild_42 ?_
            refine pw_iinc (b := 0) (ls' := [some (vR 10 (0)), some (vI (la)), some (vI (set)), some (vI ((i + 1))), some (vR 3 ((gA G 93 (la) (i)))), none]) r_10_partsChild_78 rfl rfl (by omega) rfl ?_
            refine pw_goto r_10_partsChild_81 ?_
            refine pw_weakL (ls' := [some (vR 10 (0)), some (vI (la)), some (vI (set)), some (vI ((i + 1))), none, none]) (⟨rfl, ⟨rfl, ⟨rfl, ⟨rfl, trivial⟩⟩⟩⟩) ?_
            exact ih2 ((i + 1)) (by first | assumption | omega) (fun j a b => by rcases (show j < i ∨ j = i by omega) with z | z; exact hno j a z; rw [z]; rintro ⟨y1, k, y2, y3, y4, y5⟩; omega) (by omega)
  exact L2 _ (0) (by first | assumption | omega) (fun j a b => by omega) (Nat.lt_succ_self _)
set_option maxRecDepth 10000 in
theorem sp_X10_doctorsWanted {l : Launch} {w : Wo} {d : Nat} {G : PH} {P : Option PV → PH → Prop} {x : Int} (hr : 1 ≤ (gF G 10 0 5) ∧ (gF G 10 0 5) ≤ 99) (hx : -1000 ≤ x ∧ x ≤ 1000) (hP : P (some (vI (pDiv (x + (gF G 10 0 5) - 1) (gF G 10 0 5)))) G) : PW l w M_X10_doctorsWanted (d + 0) 0 [some (vR 10 (0)), some (vI (x))] [] G P := by
  refine pw_aload r_10_doctorsWanted_0 rfl ?_
  refine pw_getI r_10_doctorsWanted_1 fs_10_5 (by decide) ?_
  refine pw_const r_10_doctorsWanted_4 ?_
  refine pw_icmp_ge r_10_doctorsWanted_5 (fun h05 => ?_) (fun h05 => ?_)
  · skip
    refine pw_iload r_10_doctorsWanted_12 rfl ?_
    refine pw_aload r_10_doctorsWanted_13 rfl ?_
    refine pw_getI r_10_doctorsWanted_14 fs_10_5 (by decide) ?_
    refine pw_iadd r_10_doctorsWanted_17 (by omega) ?_
    refine pw_const r_10_doctorsWanted_18 ?_
    refine pw_isub r_10_doctorsWanted_19 (by omega) ?_
    refine pw_aload r_10_doctorsWanted_20 rfl ?_
    refine pw_getI r_10_doctorsWanted_21 fs_10_5 (by decide) ?_
    refine pw_idiv r_10_doctorsWanted_24 (by omega) ?_
    refine pw_iret r_10_doctorsWanted_25 rfl (Nat.le_refl _) ⟨rfl, ?_⟩
    first | (exfalso; omega) | exact hP
  · skip
    refine pw_const r_10_doctorsWanted_8 ?_
    refine pw_goto r_10_doctorsWanted_9 ?_
    refine pw_iret r_10_doctorsWanted_25 rfl (Nat.le_refl _) ⟨rfl, ?_⟩
    first | (exfalso; omega) | exact hP
set_option maxRecDepth 10000 in
theorem sp_X10_lacksDoctors {l : Launch} {w : Wo} {d : Nat} {G : PH} {P : Option PV → PH → Prop} {la set : Int} (hp : ∀ i, 0 ≤ i → i < (gF G 1 0 1) → gD G 30 0 i = some (3, i)) (hsz : 0 ≤ (gF G 1 0 1) ∧ (gF G 1 0 1) ≤ 150) (hl : 0 ≤ la ∧ la < 2) (hn : 0 ≤ (gA G 94 0 (la)) ∧ (gA G 94 0 (la)) ≤ 7) (hlv : ∀ i, 0 ≤ i → i < (gA G 94 0 (la)) → 0 ≤ (gA G 93 (la) (i)) ∧ (gA G 93 (la) (i)) < (gF G 1 0 1)) (hr : 1 ≤ (gF G 10 0 5) ∧ (gF G 10 0 5) ≤ 99) (hgd : ∀ c, 0 ≤ c → c < 16 → (0 ≤ (gA G 100 0 (c)) ∧ (gA G 100 0 (c)) ≤ 150) ∧ 0 ≤ (gA G 101 0 (c)) ∧ (gA G 101 0 (c)) ≤ 150) (hP : P (some (vI (b2i (∃ c, 0 ≤ c ∧ c < 16 ∧ ((gA G 101 0 (c)) - cnt (fun i => (bt set i ∧ ((gF G 3 ((gA G 93 (la) (i))) 8) = 0 ∧ (gF G 3 ((gA G 93 (la) (i))) 10) = c)) ∧ (gF G 3 ((gA G 93 (la) (i))) 1) = 3) (gA G 94 0 (la)) < min (pDiv ((gA G 100 0 (c)) - cnt (fun i => (bt set i ∧ ((gF G 3 ((gA G 93 (la) (i))) 8) = 0 ∧ (gF G 3 ((gA G 93 (la) (i))) 10) = c)) ∧ 0 < (gF G 3 ((gA G 93 (la) (i))) 6)) (gA G 94 0 (la)) + (gF G 10 0 5) - 1) (gF G 10 0 5)) (gA G 101 0 (c))))))) G) : PW l w M_X10_lacksDoctors (d + 1) 0 [some (vR 10 (0)), some (vI (la)), some (vI (set)), none, none, none, none, none] [] G P := by
  refine pw_const r_10_lacksDoctors_0 ?_
  refine pw_istore (ls' := [some (vR 10 (0)), some (vI (la)), some (vI (set)), some (vI (0)), none, none, none, none]) r_10_lacksDoctors_1 rfl rfl ?_
  have L2 : ∀ (nF : Nat) (c : Int), (hc : 0 ≤ c ∧ c ≤ 16) → (hno : ∀ x, 0 ≤ x → x < c → ¬ ((gA G 101 0 (x)) - cnt (fun i => (bt set i ∧ ((gF G 3 ((gA G 93 (la) (i))) 8) = 0 ∧ (gF G 3 ((gA G 93 (la) (i))) 10) = x)) ∧ (gF G 3 ((gA G 93 (la) (i))) 1) = 3) (gA G 94 0 (la)) < min (pDiv ((gA G 100 0 (x)) - cnt (fun i => (bt set i ∧ ((gF G 3 ((gA G 93 (la) (i))) 8) = 0 ∧ (gF G 3 ((gA G 93 (la) (i))) 10) = x)) ∧ 0 < (gF G 3 ((gA G 93 (la) (i))) 6)) (gA G 94 0 (la)) + (gF G 10 0 5) - 1) (gF G 10 0 5)) (gA G 101 0 (x)))) → (16 - c).toNat < nF → PW l w M_X10_lacksDoctors (d + 1) 2 [some (vR 10 (0)), some (vI (la)), some (vI (set)), some (vI (c)), none, none, none, none] [] G P := by
    intro nF
    induction nF with
    | zero => intro _ _ _ hM; exact absurd hM (Nat.not_lt_zero _)
    | succ nF ih2 =>
      intro c hc hno hM2
      refine pw_iload r_10_lacksDoctors_2 rfl ?_
      refine pw_const r_10_lacksDoctors_3 ?_
      refine pw_icmp_ge r_10_lacksDoctors_5 (fun h05 => ?_) (fun h05 => ?_)
      · skip
        refine pw_const r_10_lacksDoctors_150 ?_
        refine pw_zret r_10_lacksDoctors_151 rfl (Or.inl rfl) (Nat.le_refl _) ⟨rfl, ?_⟩
        exact pe hP (b2i_f (fun z => by obtain ⟨x, q1, q2, q3⟩ := z; exact hno x q1 (by omega) q3)).symm
      · skip
        refine pw_aload r_10_lacksDoctors_8 rfl ?_
        refine pw_getR r_10_lacksDoctors_9 fs_10_8 (by decide) ?_
        refine pw_iload r_10_lacksDoctors_12 rfl ?_
        refine pw_iald r_10_lacksDoctors_13 sh100 (by omega) (by omega) ?_
        refine pw_istore (ls' := [some (vR 10 (0)), some (vI (la)), some (vI (set)), some (vI (c)), some (vI (gA G 100 (0) (c))), none, none, none]) r_10_lacksDoctors_14 rfl rfl ?_
        refine pw_aload r_10_lacksDoctors_16 rfl ?_
        refine pw_getR r_10_lacksDoctors_17 fs_10_9 (by decide) ?_
        refine pw_iload r_10_lacksDoctors_20 rfl ?_
        refine pw_iald r_10_lacksDoctors_21 sh101 (by omega) (by omega) ?_
        refine pw_istore (ls' := [some (vR 10 (0)), some (vI (la)), some (vI (set)), some (vI (c)), some (vI (gA G 100 (0) (c))), some (vI (gA G 101 (0) (c))), none, none]) r_10_lacksDoctors_22 rfl rfl ?_
        refine pw_const r_10_lacksDoctors_24 ?_
        refine pw_istore (ls' := [some (vR 10 (0)), some (vI (la)), some (vI (set)), some (vI (c)), some (vI (gA G 100 (0) (c))), some (vI (gA G 101 (0) (c))), some (vI (0)), none]) r_10_lacksDoctors_25 rfl rfl ?_
        have L27 : ∀ (nF : Nat) (i a b : Int), (hi : 0 ≤ i ∧ i ≤ (gA G 94 0 (la))) → (hg : a = (gA G 100 0 (c)) - cnt (fun i => (bt set i ∧ ((gF G 3 ((gA G 93 (la) (i))) 8) = 0 ∧ (gF G 3 ((gA G 93 (la) (i))) 10) = c)) ∧ 0 < (gF G 3 ((gA G 93 (la) (i))) 6)) i) → (hd : b = (gA G 101 0 (c)) - cnt (fun i => (bt set i ∧ ((gF G 3 ((gA G 93 (la) (i))) 8) = 0 ∧ (gF G 3 ((gA G 93 (la) (i))) 10) = c)) ∧ (gF G 3 ((gA G 93 (la) (i))) 1) = 3) i) → ((gA G 94 0 (la)) - i).toNat < nF → PW l w M_X10_lacksDoctors (d + 1) 27 [some (vR 10 (0)), some (vI (la)), some (vI (set)), some (vI (c)), some (vI (a)), some (vI (b)), some (vI (i)), none] [] G P := by
          intro nF
          induction nF with
          | zero => intro _ _ _ _ _ _ hM; exact absurd hM (Nat.not_lt_zero _)
          | succ nF ih27 =>
            intro i a b hi hg hd hM27
            have hgc := hgd c hc.1 (by omega)
            have hc1 := cnt_le (fun i => (bt set i ∧ ((gF G 3 ((gA G 93 (la) (i))) 8) = 0 ∧ (gF G 3 ((gA G 93 (la) (i))) 10) = c)) ∧ 0 < (gF G 3 ((gA G 93 (la) (i))) 6)) hi.1
            have hc2 := cnt_le (fun i => (bt set i ∧ ((gF G 3 ((gA G 93 (la) (i))) 8) = 0 ∧ (gF G 3 ((gA G 93 (la) (i))) 10) = c)) ∧ (gF G 3 ((gA G 93 (la) (i))) 1) = 3) hi.1
            refine pw_iload r_10_lacksDoctors_27 rfl ?_
            refine pw_aload r_10_lacksDoctors_29 rfl ?_
            refine pw_getR r_10_lacksDoctors_30 fs_10_3 (by decide) ?_
            refine pw_iload r_10_lacksDoctors_33 rfl ?_
            refine pw_iald r_10_lacksDoctors_34 sh94 (by omega) (by omega) ?_
            refine pw_icmp_ge r_10_lacksDoctors_35 (fun h35 => ?_) (fun h35 => ?_)
            · skip
              refine pw_iload r_10_lacksDoctors_122 rfl ?_
              refine pw_aload r_10_lacksDoctors_124 rfl ?_
              refine pw_iload r_10_lacksDoctors_125 rfl ?_
              refine pw_callV (av := [vI (a)]) (st := [vI (b)]) (ls0 := [some (vR 10 (0)), some (vI (a))]) r_10_lacksDoctors_127 rfl rfl rfl (Nat.le_refl _) ?_
              refine sp_X10_doctorsWanted (hr) (by omega) ?_
              refine pw_aload r_10_lacksDoctors_130 rfl ?_
              refine pw_getR r_10_lacksDoctors_131 fs_10_9 (by decide) ?_
              refine pw_iload r_10_lacksDoctors_134 rfl ?_
              refine pw_iald r_10_lacksDoctors_135 sh101 (by omega) (by omega) ?_
              refine pw_mmin r_10_lacksDoctors_136 rfl (Nat.le_of_ble_eq_true rfl) (Nat.le_refl _) ?_
              refine pw_icmp_ge r_10_lacksDoctors_139 (fun h139 => ?_) (fun h139 => ?_)
              · skip
                refine pw_iinc (b := 0) (ls' := [some (vR 10 (0)), some (vI (la)), some (vI (set)), some (vI ((c + 1))), some (vI (a)), some (vI (b)), some (vI (i)), none]) r_10_lacksDoctors_144 rfl rfl (by omega) rfl ?_
                refine pw_goto r_10_lacksDoctors_147 ?_
                refine pw_weakL (ls' := [some (vR 10 (0)), some (vI (la)), some (vI (set)), some (vI ((c + 1))), none, none, none, none]) (⟨rfl, ⟨rfl, ⟨rfl, ⟨rfl, trivial⟩⟩⟩⟩) ?_
                exact ih2 ((c + 1)) (by first | assumption | omega) (fun x a b => by rcases (show x < c ∨ x = c by omega) with z | z; exact hno x a z; rw [z, show (gA G 94 0 (la)) = i by omega, ← hg, ← hd]; omega) (by omega)
              · skip
                refine pw_const r_10_lacksDoctors_142 ?_
                refine pw_zret r_10_lacksDoctors_143 rfl (Or.inr rfl) (Nat.le_refl _) ⟨rfl, ?_⟩
                exact pe hP (b2i_t ⟨c, hc.1, by omega, by rw [show (gA G 94 0 (la)) = i by omega, ← hg, ← hd]; omega⟩).symm
            · skip
              refine pw_aload r_10_lacksDoctors_38 rfl ?_
              refine pw_getR r_10_lacksDoctors_39 fs_10_0 (by decide) ?_
              refine pw_aload r_10_lacksDoctors_42 rfl ?_
              refine pw_getR r_10_lacksDoctors_43 fs_10_2 (by decide) ?_
              refine pw_iload r_10_lacksDoctors_46 rfl ?_
              refine pw_aaldS r_10_lacksDoctors_47 sh92 (by decide) (by decide) aS92 rw93 (by omega) (by omega) ?_
              refine pw_iload r_10_lacksDoctors_48 rfl ?_
              refine pw_iald r_10_lacksDoctors_50 sh93 (by omega) (by omega) ?_
              refine pw_callV (av := [vI (gA G 93 (la) (i))]) (st := []) (ls0 := [some (vR 1 (0)), some (vI (gA G 93 (la) (i)))]) r_10_lacksDoctors_51 rfl rfl rfl (Nat.le_refl _) ?_
              refine sp_X1_get (by first | assumption | exact hp | omega) (by first | assumption | exact hsz | omega) ?_ ?_
              · skip
                exact fun q9 => absurd (hlv i hi.1 (by omega)) q9
              · skip
                intro q8
                refine pw_astore (ls' := [some (vR 10 (0)), some (vI (la)), some (vI (set)), some (vI (c)), some (vI (a)), some (vI (b)), some (vI (i)), some (vR 3 ((gA G 93 (la) (i))))]) r_10_lacksDoctors_54 rfl rfl ?_
                refine pw_aload r_10_lacksDoctors_56 rfl ?_
                refine pw_ifnull r_10_lacksDoctors_58 (fun q => by cases q) (fun _ _ => ?_)
                refine pw_iload r_10_lacksDoctors_61 rfl ?_
                refine pw_iload r_10_lacksDoctors_62 rfl ?_
                refine pw_callS (av := [vI (set), vI (i)]) (st := []) (ls0 := [some (vI (set)), some (vI (i))]) r_10_lacksDoctors_64 rfl rfl rfl (Nat.le_refl _) ?_
                refine sp_X10_isIn  ?_
                refine pw_if_eqB r_10_lacksDoctors_67 (fun h67 => ?_) (fun h67 => ?_)
                · skip
                  refine pw_iinc (b := 0) (ls' := [some (vR 10 (0)), some (vI (la)), some (vI (set)), some (vI (c)), some (vI (a)), some (vI (b)), some (vI ((i + 1))), some (vR 3 ((gA G 93 (la) (i))))]) r_10_lacksDoctors_116 rfl rfl (by omega) rfl ?_
                  refine pw_goto r_10_lacksDoctors_119 ?_
                  refine pw_weakL (ls' := [some (vR 10 (0)), some (vI (la)), some (vI (set)), some (vI (c)), some (vI (a)), some (vI (b)), some (vI ((i + 1))), none]) (⟨rfl, ⟨rfl, ⟨rfl, ⟨rfl, ⟨rfl, ⟨rfl, ⟨rfl, trivial⟩⟩⟩⟩⟩⟩⟩) ?_
                  exact ih27 ((i + 1)) (a) (b) (by first | assumption | omega) (by first | (rw [cnt_t hi.1 (show ((bt set i ∧ ((gF G 3 ((gA G 93 (la) (i))) 8) = 0 ∧ (gF G 3 ((gA G 93 (la) (i))) 10) = c)) ∧ 0 < (gF G 3 ((gA G 93 (la) (i))) 6)) from ⟨⟨h67, h76⟩, by omega⟩)]; omega) | (rw [cnt_f hi.1 (show ¬ ((bt set i ∧ ((gF G 3 ((gA G 93 (la) (i))) 8) = 0 ∧ (gF G 3 ((gA G 93 (la) (i))) 10) = c)) ∧ 0 < (gF G 3 ((gA G 93 (la) (i))) 6)) from fun z => by first | exact h67 z.1.1 | exact h76 z.1.2 | (have := z.2; omega))]; omega)) (by first | (rw [cnt_t hi.1 (show ((bt set i ∧ ((gF G 3 ((gA G 93 (la) (i))) 8) = 0 ∧ (gF G 3 ((gA G 93 (la) (i))) 10) = c)) ∧ (gF G 3 ((gA G 93 (la) (i))) 1) = 3) from ⟨⟨h67, h76⟩, by omega⟩)]; omega) | (rw [cnt_f hi.1 (show ¬ ((bt set i ∧ ((gF G 3 ((gA G 93 (la) (i))) 8) = 0 ∧ (gF G 3 ((gA G 93 (la) (i))) 10) = c)) ∧ (gF G 3 ((gA G 93 (la) (i))) 1) = 3) from fun z => by first | exact h67 z.1.1 | exact h76 z.1.2 | (have := z.2; omega))]; omega)) (by omega)
                · skip
                  refine pw_aload r_10_lacksDoctors_70 rfl ?_
                  refine pw_iload r_10_lacksDoctors_72 rfl ?_
                  refine pw_callV (av := [vI (c)]) (st := []) (ls0 := [some (vR 3 ((gA G 93 (la) (i)))), some (vI (c))]) r_10_lacksDoctors_73 rfl rfl rfl (Nat.le_refl _) ?_
                  refine sp_X3_isIn  ?_
                  refine pw_if_eqB r_10_lacksDoctors_76 (fun h76 => ?_) (fun h76 => ?_)
                  · skip
                    refine pw_iinc (b := 0) (ls' := [some (vR 10 (0)), some (vI (la)), some (vI (set)), some (vI (c)), some (vI (a)), some (vI (b)), some (vI ((i + 1))), some (vR 3 ((gA G 93 (la) (i))))]) r_10_lacksDoctors_116 rfl rfl (by omega) rfl ?_
                    refine pw_goto r_10_lacksDoctors_119 ?_
                    refine pw_weakL (ls' := [some (vR 10 (0)), some (vI (la)), some (vI (set)), some (vI (c)), some (vI (a)), some (vI (b)), some (vI ((i + 1))), none]) (⟨rfl, ⟨rfl, ⟨rfl, ⟨rfl, ⟨rfl, ⟨rfl, ⟨rfl, trivial⟩⟩⟩⟩⟩⟩⟩) ?_
                    exact ih27 ((i + 1)) (a) (b) (by first | assumption | omega) (by first | (rw [cnt_t hi.1 (show ((bt set i ∧ ((gF G 3 ((gA G 93 (la) (i))) 8) = 0 ∧ (gF G 3 ((gA G 93 (la) (i))) 10) = c)) ∧ 0 < (gF G 3 ((gA G 93 (la) (i))) 6)) from ⟨⟨h67, h76⟩, by omega⟩)]; omega) | (rw [cnt_f hi.1 (show ¬ ((bt set i ∧ ((gF G 3 ((gA G 93 (la) (i))) 8) = 0 ∧ (gF G 3 ((gA G 93 (la) (i))) 10) = c)) ∧ 0 < (gF G 3 ((gA G 93 (la) (i))) 6)) from fun z => by first | exact h67 z.1.1 | exact h76 z.1.2 | (have := z.2; omega))]; omega)) (by first | (rw [cnt_t hi.1 (show ((bt set i ∧ ((gF G 3 ((gA G 93 (la) (i))) 8) = 0 ∧ (gF G 3 ((gA G 93 (la) (i))) 10) = c)) ∧ (gF G 3 ((gA G 93 (la) (i))) 1) = 3) from ⟨⟨h67, h76⟩, by omega⟩)]; omega) | (rw [cnt_f hi.1 (show ¬ ((bt set i ∧ ((gF G 3 ((gA G 93 (la) (i))) 8) = 0 ∧ (gF G 3 ((gA G 93 (la) (i))) 10) = c)) ∧ (gF G 3 ((gA G 93 (la) (i))) 1) = 3) from fun z => by first | exact h67 z.1.1 | exact h76 z.1.2 | (have := z.2; omega))]; omega)) (by omega)
                  · skip
                    refine pw_iload r_10_lacksDoctors_79 rfl ?_
                    refine pw_aload r_10_lacksDoctors_81 rfl ?_
                    refine pw_getI r_10_lacksDoctors_83 fs_3_6 (by decide) ?_
                    refine pw_if_le r_10_lacksDoctors_86 (fun h86 => ?_) (fun h86 => ?_)
                    · skip
                      refine pw_const r_10_lacksDoctors_93 ?_
                      refine pw_isub r_10_lacksDoctors_94 (by omega) ?_
                      refine pw_istore (ls' := [some (vR 10 (0)), some (vI (la)), some (vI (set)), some (vI (c)), some (vI ((a - 0))), some (vI (b)), some (vI (i)), some (vR 3 ((gA G 93 (la) (i))))]) r_10_lacksDoctors_95 rfl rfl ?_
                      refine pw_iload r_10_lacksDoctors_97 rfl ?_
                      refine pw_aload r_10_lacksDoctors_99 rfl ?_
                      refine pw_getI r_10_lacksDoctors_101 fs_3_1 (by decide) ?_
                      refine pw_const r_10_lacksDoctors_104 ?_
                      refine pw_icmp_ne r_10_lacksDoctors_105 (fun h105 => ?_) (fun h105 => ?_)
                      · skip
                        refine pw_const r_10_lacksDoctors_112 ?_
                        refine pw_isub r_10_lacksDoctors_113 (by omega) ?_
                        refine pw_istore (ls' := [some (vR 10 (0)), some (vI (la)), some (vI (set)), some (vI (c)), some (vI ((a - 0))), some (vI ((b - 0))), some (vI (i)), some (vR 3 ((gA G 93 (la) (i))))]) r_10_lacksDoctors_114 rfl rfl ?_
                        refine pw_iinc (b := 0) (ls' := [some (vR 10 (0)), some (vI (la)), some (vI (set)), some (vI (c)), some (vI ((a - 0))), some (vI ((b - 0))), some (vI ((i + 1))), some (vR 3 ((gA G 93 (la) (i))))]) r_10_lacksDoctors_116 rfl rfl (by omega) rfl ?_
                        refine pw_goto r_10_lacksDoctors_119 ?_
                        refine pw_weakL (ls' := [some (vR 10 (0)), some (vI (la)), some (vI (set)), some (vI (c)), some (vI ((a - 0))), some (vI ((b - 0))), some (vI ((i + 1))), none]) (⟨rfl, ⟨rfl, ⟨rfl, ⟨rfl, ⟨rfl, ⟨rfl, ⟨rfl, trivial⟩⟩⟩⟩⟩⟩⟩) ?_
                        exact ih27 ((i + 1)) ((a - 0)) ((b - 0)) (by first | assumption | omega) (by first | (rw [cnt_t hi.1 (show ((bt set i ∧ ((gF G 3 ((gA G 93 (la) (i))) 8) = 0 ∧ (gF G 3 ((gA G 93 (la) (i))) 10) = c)) ∧ 0 < (gF G 3 ((gA G 93 (la) (i))) 6)) from ⟨⟨h67, h76⟩, by omega⟩)]; omega) | (rw [cnt_f hi.1 (show ¬ ((bt set i ∧ ((gF G 3 ((gA G 93 (la) (i))) 8) = 0 ∧ (gF G 3 ((gA G 93 (la) (i))) 10) = c)) ∧ 0 < (gF G 3 ((gA G 93 (la) (i))) 6)) from fun z => by first | exact h67 z.1.1 | exact h76 z.1.2 | (have := z.2; omega))]; omega)) (by first | (rw [cnt_t hi.1 (show ((bt set i ∧ ((gF G 3 ((gA G 93 (la) (i))) 8) = 0 ∧ (gF G 3 ((gA G 93 (la) (i))) 10) = c)) ∧ (gF G 3 ((gA G 93 (la) (i))) 1) = 3) from ⟨⟨h67, h76⟩, by omega⟩)]; omega) | (rw [cnt_f hi.1 (show ¬ ((bt set i ∧ ((gF G 3 ((gA G 93 (la) (i))) 8) = 0 ∧ (gF G 3 ((gA G 93 (la) (i))) 10) = c)) ∧ (gF G 3 ((gA G 93 (la) (i))) 1) = 3) from fun z => by first | exact h67 z.1.1 | exact h76 z.1.2 | (have := z.2; omega))]; omega)) (by omega)
                      · skip
                        refine pw_const r_10_lacksDoctors_108 ?_
                        refine pw_goto r_10_lacksDoctors_109 ?_
                        refine pw_isub r_10_lacksDoctors_113 (by omega) ?_
                        refine pw_istore (ls' := [some (vR 10 (0)), some (vI (la)), some (vI (set)), some (vI (c)), some (vI ((a - 0))), some (vI ((b - 1))), some (vI (i)), some (vR 3 ((gA G 93 (la) (i))))]) r_10_lacksDoctors_114 rfl rfl ?_
                        refine pw_iinc (b := 0) (ls' := [some (vR 10 (0)), some (vI (la)), some (vI (set)), some (vI (c)), some (vI ((a - 0))), some (vI ((b - 1))), some (vI ((i + 1))), some (vR 3 ((gA G 93 (la) (i))))]) r_10_lacksDoctors_116 rfl rfl (by omega) rfl ?_
                        refine pw_goto r_10_lacksDoctors_119 ?_
                        refine pw_weakL (ls' := [some (vR 10 (0)), some (vI (la)), some (vI (set)), some (vI (c)), some (vI ((a - 0))), some (vI ((b - 1))), some (vI ((i + 1))), none]) (⟨rfl, ⟨rfl, ⟨rfl, ⟨rfl, ⟨rfl, ⟨rfl, ⟨rfl, trivial⟩⟩⟩⟩⟩⟩⟩) ?_
                        exact ih27 ((i + 1)) ((a - 0)) ((b - 1)) (by first | assumption | omega) (by first | (rw [cnt_t hi.1 (show ((bt set i ∧ ((gF G 3 ((gA G 93 (la) (i))) 8) = 0 ∧ (gF G 3 ((gA G 93 (la) (i))) 10) = c)) ∧ 0 < (gF G 3 ((gA G 93 (la) (i))) 6)) from ⟨⟨h67, h76⟩, by omega⟩)]; omega) | (rw [cnt_f hi.1 (show ¬ ((bt set i ∧ ((gF G 3 ((gA G 93 (la) (i))) 8) = 0 ∧ (gF G 3 ((gA G 93 (la) (i))) 10) = c)) ∧ 0 < (gF G 3 ((gA G 93 (la) (i))) 6)) from fun z => by first | exact h67 z.1.1 | exact h76 z.1.2 | (have := z.2; omega))]; omega)) (by first | (rw [cnt_t hi.1 (show ((bt set i ∧ ((gF G 3 ((gA G 93 (la) (i))) 8) = 0 ∧ (gF G 3 ((gA G 93 (la) (i))) 10) = c)) ∧ (gF G 3 ((gA G 93 (la) (i))) 1) = 3) from ⟨⟨h67, h76⟩, by omega⟩)]; omega) | (rw [cnt_f hi.1 (show ¬ ((bt set i ∧ ((gF G 3 ((gA G 93 (la) (i))) 8) = 0 ∧ (gF G 3 ((gA G 93 (la) (i))) 10) = c)) ∧ (gF G 3 ((gA G 93 (la) (i))) 1) = 3) from fun z => by first | exact h67 z.1.1 | exact h76 z.1.2 | (have := z.2; omega))]; omega)) (by omega)
                    · skip
                      refine pw_const r_10_lacksDoctors_89 ?_
                      refine pw_goto r_10_lacksDoctors_90 ?_
                      refine pw_isub r_10_lacksDoctors_94 (by omega) ?_
                      refine pw_istore (ls' := [some (vR 10 (0)), some (vI (la)), some (vI (set)), some (vI (c)), some (vI ((a - 1))), some (vI (b)), some (vI (i)), some (vR 3 ((gA G 93 (la) (i))))]) r_10_lacksDoctors_95 rfl rfl ?_
                      refine pw_iload r_10_lacksDoctors_97 rfl ?_
                      refine pw_aload r_10_lacksDoctors_99 rfl ?_
                      refine pw_getI r_10_lacksDoctors_101 fs_3_1 (by decide) ?_
                      refine pw_const r_10_lacksDoctors_104 ?_
                      refine pw_icmp_ne r_10_lacksDoctors_105 (fun h105 => ?_) (fun h105 => ?_)
                      · skip
                        refine pw_const r_10_lacksDoctors_112 ?_
                        refine pw_isub r_10_lacksDoctors_113 (by omega) ?_
                        refine pw_istore (ls' := [some (vR 10 (0)), some (vI (la)), some (vI (set)), some (vI (c)), some (vI ((a - 1))), some (vI ((b - 0))), some (vI (i)), some (vR 3 ((gA G 93 (la) (i))))]) r_10_lacksDoctors_114 rfl rfl ?_
                        refine pw_iinc (b := 0) (ls' := [some (vR 10 (0)), some (vI (la)), some (vI (set)), some (vI (c)), some (vI ((a - 1))), some (vI ((b - 0))), some (vI ((i + 1))), some (vR 3 ((gA G 93 (la) (i))))]) r_10_lacksDoctors_116 rfl rfl (by omega) rfl ?_
                        refine pw_goto r_10_lacksDoctors_119 ?_
                        refine pw_weakL (ls' := [some (vR 10 (0)), some (vI (la)), some (vI (set)), some (vI (c)), some (vI ((a - 1))), some (vI ((b - 0))), some (vI ((i + 1))), none]) (⟨rfl, ⟨rfl, ⟨rfl, ⟨rfl, ⟨rfl, ⟨rfl, ⟨rfl, trivial⟩⟩⟩⟩⟩⟩⟩) ?_
                        exact ih27 ((i + 1)) ((a - 1)) ((b - 0)) (by first | assumption | omega) (by first | (rw [cnt_t hi.1 (show ((bt set i ∧ ((gF G 3 ((gA G 93 (la) (i))) 8) = 0 ∧ (gF G 3 ((gA G 93 (la) (i))) 10) = c)) ∧ 0 < (gF G 3 ((gA G 93 (la) (i))) 6)) from ⟨⟨h67, h76⟩, by omega⟩)]; omega) | (rw [cnt_f hi.1 (show ¬ ((bt set i ∧ ((gF G 3 ((gA G 93 (la) (i))) 8) = 0 ∧ (gF G 3 ((gA G 93 (la) (i))) 10) = c)) ∧ 0 < (gF G 3 ((gA G 93 (la) (i))) 6)) from fun z => by first | exact h67 z.1.1 | exact h76 z.1.2 | (have := z.2; omega))]; omega)) (by first | (rw [cnt_t hi.1 (show ((bt set i ∧ ((gF G 3 ((gA G 93 (la) (i))) 8) = 0 ∧ (gF G 3 ((gA G 93 (la) (i))) 10) = c)) ∧ (gF G 3 ((gA G 93 (la) (i))) 1) = 3) from ⟨⟨h67, h76⟩, by omega⟩)]; omega) | (rw [cnt_f hi.1 (show ¬ ((bt set i ∧ ((gF G 3 ((gA G 93 (la) (i))) 8) = 0 ∧ (gF G 3 ((gA G 93 (la) (i))) 10) = c)) ∧ (gF G 3 ((gA G 93 (la) (i))) 1) = 3) from fun z => by first | exact h67 z.1.1 | exact h76 z.1.2 | (have := z.2; omega))]; omega)) (by omega)
                      · skip
                        refine pw_const r_10_lacksDoctors_108 ?_
                        refine pw_goto r_10_lacksDoctors_109 ?_
                        refine pw_isub r_10_lacksDoctors_113 (by omega) ?_
                        refine pw_istore (ls' := [some (vR 10 (0)), some (vI (la)), some (vI (set)), some (vI (c)), some (vI ((a - 1))), some (vI ((b - 1))), some (vI (i)), some (vR 3 ((gA G 93 (la) (i))))]) r_10_lacksDoctors_114 rfl rfl ?_
                        refine pw_iinc (b := 0) (ls' := [some (vR 10 (0)), some (vI (la)), some (vI (set)), some (vI (c)), some (vI ((a - 1))), some (vI ((b - 1))), some (vI ((i + 1))), some (vR 3 ((gA G 93 (la) (i))))]) r_10_lacksDoctors_116 rfl rfl (by omega) rfl ?_
                        refine pw_goto r_10_lacksDoctors_119 ?_
                        refine pw_weakL (ls' := [some (vR 10 (0)), some (vI (la)), some (vI (set)), some (vI (c)), some (vI ((a - 1))), some (vI ((b - 1))), some (vI ((i + 1))), none]) (⟨rfl, ⟨rfl, ⟨rfl, ⟨rfl, ⟨rfl, ⟨rfl, ⟨rfl, trivial⟩⟩⟩⟩⟩⟩⟩) ?_
                        exact ih27 ((i + 1)) ((a - 1)) ((b - 1)) (by first | assumption | omega) (by first | (rw [cnt_t hi.1 (show ((bt set i ∧ ((gF G 3 ((gA G 93 (la) (i))) 8) = 0 ∧ (gF G 3 ((gA G 93 (la) (i))) 10) = c)) ∧ 0 < (gF G 3 ((gA G 93 (la) (i))) 6)) from ⟨⟨h67, h76⟩, by omega⟩)]; omega) | (rw [cnt_f hi.1 (show ¬ ((bt set i ∧ ((gF G 3 ((gA G 93 (la) (i))) 8) = 0 ∧ (gF G 3 ((gA G 93 (la) (i))) 10) = c)) ∧ 0 < (gF G 3 ((gA G 93 (la) (i))) 6)) from fun z => by first | exact h67 z.1.1 | exact h76 z.1.2 | (have := z.2; omega))]; omega)) (by first | (rw [cnt_t hi.1 (show ((bt set i ∧ ((gF G 3 ((gA G 93 (la) (i))) 8) = 0 ∧ (gF G 3 ((gA G 93 (la) (i))) 10) = c)) ∧ (gF G 3 ((gA G 93 (la) (i))) 1) = 3) from ⟨⟨h67, h76⟩, by omega⟩)]; omega) | (rw [cnt_f hi.1 (show ¬ ((bt set i ∧ ((gF G 3 ((gA G 93 (la) (i))) 8) = 0 ∧ (gF G 3 ((gA G 93 (la) (i))) 10) = c)) ∧ (gF G 3 ((gA G 93 (la) (i))) 1) = 3) from fun z => by first | exact h67 z.1.1 | exact h76 z.1.2 | (have := z.2; omega))]; omega)) (by omega)
        exact L27 _ (0) (gA G 100 (0) (c)) (gA G 101 (0) (c)) (by first | assumption | omega) (by rw [cnt_0]; omega) (by rw [cnt_0]; omega) (Nat.lt_succ_self _)
  exact L2 _ (0) (by first | assumption | omega) (fun j a b => by omega) (Nat.lt_succ_self _)

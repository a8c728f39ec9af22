abbrev FQ : Type := RQm × (Int → Int) × (Int → Int)
/-- after some finding: the reader, who may stay, the worths -/
def fndM (G : PH) (g : FQ) : PH := uA (uA (rstM G g.1) 245 0 g.2.1) 246 0 g.2.2
def fndQ (G : PH) : FQ := (rstN G, gA G 245 0, gA G 246 0)
theorem fnd_self (G : PH) : fndM G (fndQ G) = G := by
  show uA (uA (rstM G (rstN G)) 245 0 (gA G 245 0)) 246 0 (gA G 246 0) = G
  rw [rstM_self, uA_own, uA_own]
theorem rsm_uA (G : PH) (c : Nat) (r : Int) (f : Int → Int) (q : RQm) (h : c ≠ 235) : rstM (uA G c r f) q = uA (rstM G q) c r f := by
  unfold rstM
  rw [uA_comm _ _ _ _ _ _ _ h]
  rfl
theorem fnd_rst (G : PH) (g : FQ) (q : RQm) : rstM (fndM G g) q = fndM G (q, g.2) := by
  unfold fndM
  rw [rsm_uA _ _ _ _ _ (by decide), rsm_uA _ _ _ _ _ (by decide), rstM_rst]
theorem fnd_45 (G : PH) (g : FQ) (i v : Int) : sA (fndM G g) 245 0 i v = fndM G (g.1, upA g.2.1 i v, g.2.2) := by
  unfold fndM
  rw [sA_uA_ne _ _ _ _ _ _ _ _ (by decide), sA_uA]
theorem fnd_46 (G : PH) (g : FQ) (i v : Int) : sA (fndM G g) 246 0 i v = fndM G (g.1, g.2.1, upA g.2.2 i v) := by
  unfold fndM
  rw [sA_uA]
/-- what was found of place i of list s -/
def fOk (ST : Int → Prop) (W0 W1 : Int → Int) (L ms wo : Int → Int) (s i : Int) : Prop := ms (7 * s + i) = b2i (ST (L (7 * s + i))) ∧ wo (2 * (7 * s + i)) = W0 (L (7 * s + i)) ∧ wo (2 * (7 * s + i) + 1) = W1 (L (7 * s + i))
theorem fOk_old {ST : Int → Prop} {W0 W1 L ms wo : Int → Int} {s i s1 i1 v u0 u1 : Int} (h : 7 * s + i ≠ 7 * s1 + i1) (hf : fOk ST W0 W1 L ms wo s i) : fOk ST W0 W1 L (upA ms (7 * s1 + i1) v) (upA (upA wo (2 * (7 * s1 + i1)) u0) (2 * (7 * s1 + i1) + 1) u1) s i := by
  unfold fOk at hf ⊢
  rw [upA_ne h, upA_ne (show 2 * (7 * s + i) ≠ 2 * (7 * s1 + i1) + 1 by omega), upA_ne (show 2 * (7 * s + i) ≠ 2 * (7 * s1 + i1) by omega), upA_ne (show 2 * (7 * s + i) + 1 ≠ 2 * (7 * s1 + i1) + 1 by omega), upA_ne (show 2 * (7 * s + i) + 1 ≠ 2 * (7 * s1 + i1) by omega)]
  exact hf
theorem fOk_new {ST : Int → Prop} {W0 W1 L ms wo : Int → Int} {s i v u0 u1 : Int} (hv : v = b2i (ST (L (7 * s + i)))) (h0 : u0 = W0 (L (7 * s + i))) (h1 : u1 = W1 (L (7 * s + i))) : fOk ST W0 W1 L (upA ms (7 * s + i) v) (upA (upA wo (2 * (7 * s + i)) u0) (2 * (7 * s + i) + 1) u1) s i :=
  ⟨(upA_same _ _ _).trans hv, (upA_ne (by omega)).trans ((upA_same _ _ _).trans h0), (upA_same _ _ _).trans h1⟩
theorem sm_in (w : Int → Int) (set n : Int) : -2147483648 ≤ smF w set n ∧ smF w set n < 2147483648 := by
  unfold smF
  induction n.toNat with
  | zero => exact ⟨show (-2147483648 : Int) ≤ 0 by decide, show (0 : Int) < 2147483648 by decide⟩
  | succ k ih =>
    rw [smN]
    by_cases h : pAnd (pShr set k) 1 ≠ 0
    · rw [if_pos h]; exact wr_in _
    · rw [if_neg h]; exact ih
theorem pAnd_1 (a : Int) : pAnd a 1 = a % 2 := by
  unfold pAnd
  have e : (Int32.ofInt a &&& Int32.ofInt 1).toBitVec = BitVec.ofInt 32 a &&& 1#32 := rfl
  have h1 : (BitVec.ofInt 32 a &&& 1#32).toNat = (BitVec.ofInt 32 a).toNat % 2 := by
    rw [BitVec.toNat_and]
    exact Nat.and_two_pow_sub_one_eq_mod _ 1
  have h2 : (BitVec.ofInt 32 a).toNat = (a % 4294967296).toNat := BitVec.toNat_ofInt _
  show (Int32.ofInt a &&& Int32.ofInt 1).toBitVec.toInt = a % 2
  rw [e, BitVec.toInt_eq_toNat_of_lt (by omega), h1, h2]
  omega
theorem bt1 {set i : Int} : bt set i ↔ pAnd (pShr set i) 1 = 1 := by
  unfold bt
  have := pAnd_1 (pShr set i)
  omega
def gonM (G : PH) (set0 set1 p : Int) : Prop := (∃ j, 0 ≤ j ∧ j < (gA G 243 0 (0)) ∧ bt set0 j ∧ (gA G 242 0 (j)) = p) ∨ (∃ j, 0 ≤ j ∧ j < (gA G 243 0 (1)) ∧ bt set1 j ∧ (gA G 242 0 (7 + j)) = p)
def ofM (G : PH) (w : Int) : Prop := ∃ j, 0 ≤ j ∧ j < (gA G 243 0 ((gA G 205 0 (w)))) ∧ (gA G 242 0 (7 * (gA G 205 0 (w)) + j)) = w
def pcQ (G : PH) (go : Int → Prop) (p : Int) : Prop := (gA G 204 0 (p)) = 6 ∧ 0 ≤ (gA G 209 0 (p)) ∧ ofM G (gA G 209 0 (p)) ∧ ¬ (go p ↔ go (gA G 209 0 (p)))
def pcM (G : PH) (go : Int → Prop) : Prop := ∃ s i, 0 ≤ s ∧ s < 2 ∧ 0 ≤ i ∧ i < (gA G 243 0 (s)) ∧ pcQ G go (gA G 242 0 (7 * s + i))
noncomputable def sickM (G : PH) (go : Int → Prop) (c : Int) : Int := cnt (fun p => ((gA G 206 0 (p)) = 0 ∧ (gA G 207 0 (p)) = c) ∧ 0 < (gA G 210 0 (p)) ∧ ¬ go p) (gF G 12 0 17)
noncomputable def hadM (G : PH) (c : Int) : Int := cnt (fun p => ((gA G 206 0 (p)) = 0 ∧ (gA G 207 0 (p)) = c) ∧ (gA G 204 0 (p)) = 3) (gF G 12 0 17)
noncomputable def leftM (G : PH) (go : Int → Prop) (c : Int) : Int := cnt (fun p => ((gA G 206 0 (p)) = 0 ∧ (gA G 207 0 (p)) = c) ∧ (gA G 204 0 (p)) = 3 ∧ ¬ go p) (gF G 12 0 17)
def ldM (G : PH) (go : Int → Prop) : Prop := ∃ c, 0 ≤ c ∧ c < (gF G 12 0 3) ∧ leftM G go c < min (pDiv (sickM G go c + (gF G 12 0 62) - 1) (gF G 12 0 62)) (hadM G c)
def awM (G : PH) (s set : Int) : Prop := ∃ i, 0 ≤ i ∧ i < (gA G 243 0 (s)) ∧ bt set i ∧ (gA G 206 0 ((gA G 242 0 (7 * s + i)))) ≠ 0
def syM (G : PH) (ST : Int → Int → Int → Prop) (s set : Int) : Prop := ∃ i, 0 ≤ i ∧ i < (gA G 243 0 (s)) ∧ bt set i ∧ ST (gA G 242 0 (7 * s + i)) (gF G 12 0 0) (gF G 12 0 0)
noncomputable def wfM (G : PH) (WT : Int → Int → Int → Int → Int) (s k set : Int) : Int := smF (fun i => WT (gA G 242 0 (7 * s + i)) k (gF G 12 0 0) (gF G 12 0 0)) set (gA G 243 0 (s))
noncomputable def vdM (G : PH) (ST : Int → Int → Int → Prop) (WT : Int → Int → Int → Int → Int) (set0 set1 : Int) : Int := vdF (b2i (awM G 0 set0 ∨ awM G 1 set1)) (b2i (syM G ST 0 set0 ∨ syM G ST 1 set1)) (wfM G WT 0 0 set0) (wfM G WT 1 0 set1) (wfM G WT 1 1 set1) (wfM G WT 0 1 set0) (b2i (pcM G (gonM G set0 set1))) (b2i (ldM G (gonM G set0 set1)))

theorem wd_f12_156 : Cond.fieldLink "NameRollsModel" 156 "NameRollsModel" "mayStay" "[Z" ∈ UW := UW7_at 133 (by decide +kernel) rfl
theorem wd_f12_159 : Cond.fieldLink "NameRollsModel" 159 "NameRollsModel" "worth" "[I" ∈ UW := UW7_at 134 (by decide +kernel) rfl
theorem wd_m12_440 : Cond.methodLink "NameRollsModel" 440 M_X12_isOffered.1 ∈ UW := UW9_at 223 (by decide +kernel) rfl
theorem wd_s12_isOffered : Cond.selects M_X12_isOffered.1.cls M_X12_isOffered.1 M_X12_isOffered.1 ∈ UW := UWp_at 95 (by decide +kernel) rfl
theorem wd_f12_162 : Cond.fieldLink "NameRollsModel" 162 "NameRollsModel" "goes" "[Z" ∈ UW := UW7_at 135 (by decide +kernel) rfl
theorem r_12_findOffered_0 : RC M_X12_findOffered 0 0 1 := ⟨⟨by decide, by decide⟩, Or.inl ⟨by decide +kernel, rfl⟩⟩
theorem r_12_findOffered_1 : RS M_X12_findOffered 1 1 2 := ⟨by decide, Or.inl ⟨1, by decide +kernel, rfl, rfl⟩⟩
theorem r_12_findOffered_2 : RL M_X12_findOffered 2 1 3 := Or.inl ⟨1, by decide +kernel, rfl, rfl⟩
theorem r_12_findOffered_3 : RC M_X12_findOffered 3 2 4 := ⟨⟨by decide, by decide⟩, Or.inl ⟨by decide +kernel, rfl⟩⟩
theorem r_12_findOffered_4 : RB M_X12_findOffered 4 (.if_icmp .ge) 113 7 := ⟨109, by decide +kernel, rfl, rfl⟩
theorem r_12_findOffered_113 : RW M_X12_findOffered 113 .return_ 114 1 := ⟨by decide +kernel, rfl⟩
theorem r_12_findOffered_7 : RC M_X12_findOffered 7 0 8 := ⟨⟨by decide, by decide⟩, Or.inl ⟨by decide +kernel, rfl⟩⟩
theorem r_12_findOffered_8 : RS M_X12_findOffered 8 2 9 := ⟨by decide, Or.inl ⟨2, by decide +kernel, rfl, rfl⟩⟩
theorem r_12_findOffered_9 : RL M_X12_findOffered 9 2 10 := Or.inl ⟨2, by decide +kernel, rfl, rfl⟩
theorem r_12_findOffered_10 : RA M_X12_findOffered 10 0 11 := Or.inl ⟨0, by decide +kernel, rfl, rfl⟩
theorem r_12_findOffered_11 : RG M_X12_findOffered 11 12 61 14 := ⟨144, _, by decide +kernel, rfl, by decide, wd_f12_144, rfl, rfl⟩
theorem r_12_findOffered_14 : RL M_X12_findOffered 14 1 15 := Or.inl ⟨1, by decide +kernel, rfl, rfl⟩
theorem r_12_findOffered_15 : RW M_X12_findOffered 15 .iaload 16 1 := ⟨by decide +kernel, rfl⟩
theorem r_12_findOffered_16 : RB M_X12_findOffered 16 (.if_icmp .ge) 107 19 := ⟨91, by decide +kernel, rfl, rfl⟩
theorem r_12_findOffered_107 : RI M_X12_findOffered 107 1 1 110 := ⟨by decide, by decide +kernel, rfl⟩
theorem r_12_findOffered_110 : RB M_X12_findOffered 110 .goto 2 113 := ⟨(-108), by decide +kernel, rfl, rfl⟩
theorem r_12_findOffered_19 : RA M_X12_findOffered 19 0 20 := Or.inl ⟨0, by decide +kernel, rfl, rfl⟩
theorem r_12_findOffered_20 : RG M_X12_findOffered 20 12 60 23 := ⟨141, _, by decide +kernel, rfl, by decide, wd_f12_141, rfl, rfl⟩
theorem r_12_findOffered_23 : RC M_X12_findOffered 23 7 25 := ⟨⟨by decide, by decide⟩, Or.inr (Or.inl ⟨by decide +kernel, by decide, rfl⟩)⟩
theorem r_12_findOffered_25 : RL M_X12_findOffered 25 1 26 := Or.inl ⟨1, by decide +kernel, rfl, rfl⟩
theorem r_12_findOffered_26 : RW M_X12_findOffered 26 .imul 27 1 := ⟨by decide +kernel, rfl⟩
theorem r_12_findOffered_27 : RL M_X12_findOffered 27 2 28 := Or.inl ⟨2, by decide +kernel, rfl, rfl⟩
theorem r_12_findOffered_28 : RW M_X12_findOffered 28 .iadd 29 1 := ⟨by decide +kernel, rfl⟩
theorem r_12_findOffered_29 : RW M_X12_findOffered 29 .iaload 30 1 := ⟨by decide +kernel, rfl⟩
theorem r_12_findOffered_30 : RS M_X12_findOffered 30 3 31 := ⟨by decide, Or.inl ⟨3, by decide +kernel, rfl, rfl⟩⟩
theorem r_12_findOffered_31 : RA M_X12_findOffered 31 0 32 := Or.inl ⟨0, by decide +kernel, rfl, rfl⟩
theorem r_12_findOffered_32 : RG M_X12_findOffered 32 12 65 35 := ⟨156, _, by decide +kernel, rfl, by decide, wd_f12_156, rfl, rfl⟩
theorem r_12_findOffered_35 : RC M_X12_findOffered 35 7 37 := ⟨⟨by decide, by decide⟩, Or.inr (Or.inl ⟨by decide +kernel, by decide, rfl⟩)⟩
theorem r_12_findOffered_37 : RL M_X12_findOffered 37 1 38 := Or.inl ⟨1, by decide +kernel, rfl, rfl⟩
theorem r_12_findOffered_38 : RW M_X12_findOffered 38 .imul 39 1 := ⟨by decide +kernel, rfl⟩
theorem r_12_findOffered_39 : RL M_X12_findOffered 39 2 40 := Or.inl ⟨2, by decide +kernel, rfl, rfl⟩
theorem r_12_findOffered_40 : RW M_X12_findOffered 40 .iadd 41 1 := ⟨by decide +kernel, rfl⟩
theorem r_12_findOffered_41 : RA M_X12_findOffered 41 0 42 := Or.inl ⟨0, by decide +kernel, rfl, rfl⟩
theorem r_12_findOffered_42 : RL M_X12_findOffered 42 3 43 := Or.inl ⟨3, by decide +kernel, rfl, rfl⟩
theorem r_12_findOffered_43 : RA M_X12_findOffered 43 0 44 := Or.inl ⟨0, by decide +kernel, rfl, rfl⟩
theorem r_12_findOffered_44 : RG M_X12_findOffered 44 12 0 47 := ⟨268, _, by decide +kernel, rfl, by decide, wd_f12_268, rfl, rfl⟩
theorem r_12_findOffered_47 : RA M_X12_findOffered 47 0 48 := Or.inl ⟨0, by decide +kernel, rfl, rfl⟩
theorem r_12_findOffered_48 : RG M_X12_findOffered 48 12 0 51 := ⟨268, _, by decide +kernel, rfl, by decide, wd_f12_268, rfl, rfl⟩
theorem r_12_findOffered_51 : RKv M_X12_findOffered M_X12_mayStayOn 51 3 12 54 := ⟨390, by decide +kernel, wd_m12_390, ok_M_X12_mayStayOn, wd_s12_mayStayOn, rfl⟩
theorem r_12_findOffered_54 : RW M_X12_findOffered 54 .bastore 55 1 := ⟨by decide +kernel, rfl⟩
theorem r_12_findOffered_55 : RC M_X12_findOffered 55 0 56 := ⟨⟨by decide, by decide⟩, Or.inl ⟨by decide +kernel, rfl⟩⟩
theorem r_12_findOffered_56 : RS M_X12_findOffered 56 4 58 := ⟨by decide, Or.inr ⟨by decide +kernel, rfl⟩⟩
theorem r_12_findOffered_58 : RL M_X12_findOffered 58 4 60 := Or.inr ⟨by decide +kernel, rfl⟩
theorem r_12_findOffered_60 : RC M_X12_findOffered 60 2 61 := ⟨⟨by decide, by decide⟩, Or.inl ⟨by decide +kernel, rfl⟩⟩
theorem r_12_findOffered_61 : RB M_X12_findOffered 61 (.if_icmp .ge) 101 64 := ⟨40, by decide +kernel, rfl, rfl⟩
theorem r_12_findOffered_64 : RA M_X12_findOffered 64 0 65 := Or.inl ⟨0, by decide +kernel, rfl, rfl⟩
theorem r_12_findOffered_65 : RG M_X12_findOffered 65 12 66 68 := ⟨159, _, by decide +kernel, rfl, by decide, wd_f12_159, rfl, rfl⟩
theorem r_12_findOffered_68 : RC M_X12_findOffered 68 2 69 := ⟨⟨by decide, by decide⟩, Or.inl ⟨by decide +kernel, rfl⟩⟩
theorem r_12_findOffered_69 : RC M_X12_findOffered 69 7 71 := ⟨⟨by decide, by decide⟩, Or.inr (Or.inl ⟨by decide +kernel, by decide, rfl⟩)⟩
theorem r_12_findOffered_71 : RL M_X12_findOffered 71 1 72 := Or.inl ⟨1, by decide +kernel, rfl, rfl⟩
theorem r_12_findOffered_72 : RW M_X12_findOffered 72 .imul 73 1 := ⟨by decide +kernel, rfl⟩
theorem r_12_findOffered_73 : RL M_X12_findOffered 73 2 74 := Or.inl ⟨2, by decide +kernel, rfl, rfl⟩
theorem r_12_findOffered_74 : RW M_X12_findOffered 74 .iadd 75 1 := ⟨by decide +kernel, rfl⟩
theorem r_12_findOffered_75 : RW M_X12_findOffered 75 .imul 76 1 := ⟨by decide +kernel, rfl⟩
theorem r_12_findOffered_76 : RL M_X12_findOffered 76 4 78 := Or.inr ⟨by decide +kernel, rfl⟩
theorem r_12_findOffered_78 : RW M_X12_findOffered 78 .iadd 79 1 := ⟨by decide +kernel, rfl⟩
theorem r_12_findOffered_79 : RA M_X12_findOffered 79 0 80 := Or.inl ⟨0, by decide +kernel, rfl, rfl⟩
theorem r_12_findOffered_80 : RL M_X12_findOffered 80 3 81 := Or.inl ⟨3, by decide +kernel, rfl, rfl⟩
theorem r_12_findOffered_81 : RL M_X12_findOffered 81 4 83 := Or.inr ⟨by decide +kernel, rfl⟩
theorem r_12_findOffered_83 : RA M_X12_findOffered 83 0 84 := Or.inl ⟨0, by decide +kernel, rfl, rfl⟩
theorem r_12_findOffered_84 : RG M_X12_findOffered 84 12 0 87 := ⟨268, _, by decide +kernel, rfl, by decide, wd_f12_268, rfl, rfl⟩
theorem r_12_findOffered_87 : RA M_X12_findOffered 87 0 88 := Or.inl ⟨0, by decide +kernel, rfl, rfl⟩
theorem r_12_findOffered_88 : RG M_X12_findOffered 88 12 0 91 := ⟨268, _, by decide +kernel, rfl, by decide, wd_f12_268, rfl, rfl⟩
theorem r_12_findOffered_91 : RKv M_X12_findOffered M_X12_worthOf 91 4 12 94 := ⟨393, by decide +kernel, wd_m12_393, ok_M_X12_worthOf, wd_s12_worthOf, rfl⟩
theorem r_12_findOffered_94 : RW M_X12_findOffered 94 .iastore 95 1 := ⟨by decide +kernel, rfl⟩
theorem r_12_findOffered_95 : RI M_X12_findOffered 95 4 1 98 := ⟨by decide, by decide +kernel, rfl⟩
theorem r_12_findOffered_98 : RB M_X12_findOffered 98 .goto 58 101 := ⟨(-40), by decide +kernel, rfl, rfl⟩
theorem r_12_findOffered_101 : RI M_X12_findOffered 101 2 1 104 := ⟨by decide, by decide +kernel, rfl⟩
theorem r_12_findOffered_104 : RB M_X12_findOffered 104 .goto 9 107 := ⟨(-95), by decide +kernel, rfl, rfl⟩
theorem r_12_isOffered_0 : RC M_X12_isOffered 0 0 1 := ⟨⟨by decide, by decide⟩, Or.inl ⟨by decide +kernel, rfl⟩⟩
theorem r_12_isOffered_1 : RS M_X12_isOffered 1 2 2 := ⟨by decide, Or.inl ⟨2, by decide +kernel, rfl, rfl⟩⟩
theorem r_12_isOffered_2 : RC M_X12_isOffered 2 0 3 := ⟨⟨by decide, by decide⟩, Or.inl ⟨by decide +kernel, rfl⟩⟩
theorem r_12_isOffered_3 : RS M_X12_isOffered 3 3 4 := ⟨by decide, Or.inl ⟨3, by decide +kernel, rfl, rfl⟩⟩
theorem r_12_isOffered_4 : RL M_X12_isOffered 4 3 5 := Or.inl ⟨3, by decide +kernel, rfl, rfl⟩
theorem r_12_isOffered_5 : RA M_X12_isOffered 5 0 6 := Or.inl ⟨0, by decide +kernel, rfl, rfl⟩
theorem r_12_isOffered_6 : RG M_X12_isOffered 6 12 61 9 := ⟨144, _, by decide +kernel, rfl, by decide, wd_f12_144, rfl, rfl⟩
theorem r_12_isOffered_9 : RA M_X12_isOffered 9 0 10 := Or.inl ⟨0, by decide +kernel, rfl, rfl⟩
theorem r_12_isOffered_10 : RG M_X12_isOffered 10 12 7 13 := ⟨25, _, by decide +kernel, rfl, by decide, wd_f12_25, rfl, rfl⟩
theorem r_12_isOffered_13 : RL M_X12_isOffered 13 1 14 := Or.inl ⟨1, by decide +kernel, rfl, rfl⟩
theorem r_12_isOffered_14 : RW M_X12_isOffered 14 .iaload 15 1 := ⟨by decide +kernel, rfl⟩
theorem r_12_isOffered_15 : RW M_X12_isOffered 15 .iaload 16 1 := ⟨by decide +kernel, rfl⟩
theorem r_12_isOffered_16 : RB M_X12_isOffered 16 (.if_icmp .ge) 55 19 := ⟨39, by decide +kernel, rfl, rfl⟩
theorem r_12_isOffered_55 : RL M_X12_isOffered 55 2 56 := Or.inl ⟨2, by decide +kernel, rfl, rfl⟩
theorem r_12_isOffered_56 : RW M_X12_isOffered 56 .ireturn 57 1 := ⟨by decide +kernel, rfl⟩
theorem r_12_isOffered_19 : RL M_X12_isOffered 19 2 20 := Or.inl ⟨2, by decide +kernel, rfl, rfl⟩
theorem r_12_isOffered_20 : RB M_X12_isOffered 20 (.ifCond .ne) 43 23 := ⟨23, by decide +kernel, rfl, rfl⟩
theorem r_12_isOffered_43 : RC M_X12_isOffered 43 1 44 := ⟨⟨by decide, by decide⟩, Or.inl ⟨by decide +kernel, rfl⟩⟩
theorem r_12_isOffered_44 : RB M_X12_isOffered 44 .goto 48 47 := ⟨4, by decide +kernel, rfl, rfl⟩
theorem r_12_isOffered_48 : RS M_X12_isOffered 48 2 49 := ⟨by decide, Or.inl ⟨2, by decide +kernel, rfl, rfl⟩⟩
theorem r_12_isOffered_49 : RI M_X12_isOffered 49 3 1 52 := ⟨by decide, by decide +kernel, rfl⟩
theorem r_12_isOffered_52 : RB M_X12_isOffered 52 .goto 4 55 := ⟨(-48), by decide +kernel, rfl, rfl⟩
theorem r_12_isOffered_23 : RA M_X12_isOffered 23 0 24 := Or.inl ⟨0, by decide +kernel, rfl, rfl⟩
theorem r_12_isOffered_24 : RG M_X12_isOffered 24 12 60 27 := ⟨141, _, by decide +kernel, rfl, by decide, wd_f12_141, rfl, rfl⟩
theorem r_12_isOffered_27 : RC M_X12_isOffered 27 7 29 := ⟨⟨by decide, by decide⟩, Or.inr (Or.inl ⟨by decide +kernel, by decide, rfl⟩)⟩
theorem r_12_isOffered_29 : RA M_X12_isOffered 29 0 30 := Or.inl ⟨0, by decide +kernel, rfl, rfl⟩
theorem r_12_isOffered_30 : RG M_X12_isOffered 30 12 7 33 := ⟨25, _, by decide +kernel, rfl, by decide, wd_f12_25, rfl, rfl⟩
theorem r_12_isOffered_33 : RL M_X12_isOffered 33 1 34 := Or.inl ⟨1, by decide +kernel, rfl, rfl⟩
theorem r_12_isOffered_34 : RW M_X12_isOffered 34 .iaload 35 1 := ⟨by decide +kernel, rfl⟩
theorem r_12_isOffered_35 : RW M_X12_isOffered 35 .imul 36 1 := ⟨by decide +kernel, rfl⟩
theorem r_12_isOffered_36 : RL M_X12_isOffered 36 3 37 := Or.inl ⟨3, by decide +kernel, rfl, rfl⟩
theorem r_12_isOffered_37 : RW M_X12_isOffered 37 .iadd 38 1 := ⟨by decide +kernel, rfl⟩
theorem r_12_isOffered_38 : RW M_X12_isOffered 38 .iaload 39 1 := ⟨by decide +kernel, rfl⟩
theorem r_12_isOffered_39 : RL M_X12_isOffered 39 1 40 := Or.inl ⟨1, by decide +kernel, rfl, rfl⟩
theorem r_12_isOffered_40 : RB M_X12_isOffered 40 (.if_icmp .ne) 47 43 := ⟨7, by decide +kernel, rfl, rfl⟩
theorem r_12_isOffered_47 : RC M_X12_isOffered 47 0 48 := ⟨⟨by decide, by decide⟩, Or.inl ⟨by decide +kernel, rfl⟩⟩
theorem r_12_partsChild_0 : RC M_X12_partsChild 0 0 1 := ⟨⟨by decide, by decide⟩, Or.inl ⟨by decide +kernel, rfl⟩⟩
theorem r_12_partsChild_1 : RS M_X12_partsChild 1 1 2 := ⟨by decide, Or.inl ⟨1, by decide +kernel, rfl, rfl⟩⟩
theorem r_12_partsChild_2 : RC M_X12_partsChild 2 0 3 := ⟨⟨by decide, by decide⟩, Or.inl ⟨by decide +kernel, rfl⟩⟩
theorem r_12_partsChild_3 : RS M_X12_partsChild 3 2 4 := ⟨by decide, Or.inl ⟨2, by decide +kernel, rfl, rfl⟩⟩
theorem r_12_partsChild_4 : RL M_X12_partsChild 4 2 5 := Or.inl ⟨2, by decide +kernel, rfl, rfl⟩
theorem r_12_partsChild_5 : RC M_X12_partsChild 5 2 6 := ⟨⟨by decide, by decide⟩, Or.inl ⟨by decide +kernel, rfl⟩⟩
theorem r_12_partsChild_6 : RB M_X12_partsChild 6 (.if_icmp .ge) 114 9 := ⟨108, by decide +kernel, rfl, rfl⟩
theorem r_12_partsChild_114 : RL M_X12_partsChild 114 1 115 := Or.inl ⟨1, by decide +kernel, rfl, rfl⟩
theorem r_12_partsChild_115 : RW M_X12_partsChild 115 .ireturn 116 1 := ⟨by decide +kernel, rfl⟩
theorem r_12_partsChild_9 : RC M_X12_partsChild 9 0 10 := ⟨⟨by decide, by decide⟩, Or.inl ⟨by decide +kernel, rfl⟩⟩
theorem r_12_partsChild_10 : RS M_X12_partsChild 10 3 11 := ⟨by decide, Or.inl ⟨3, by decide +kernel, rfl, rfl⟩⟩
theorem r_12_partsChild_11 : RL M_X12_partsChild 11 3 12 := Or.inl ⟨3, by decide +kernel, rfl, rfl⟩
theorem r_12_partsChild_12 : RA M_X12_partsChild 12 0 13 := Or.inl ⟨0, by decide +kernel, rfl, rfl⟩
theorem r_12_partsChild_13 : RG M_X12_partsChild 13 12 61 16 := ⟨144, _, by decide +kernel, rfl, by decide, wd_f12_144, rfl, rfl⟩
theorem r_12_partsChild_16 : RL M_X12_partsChild 16 2 17 := Or.inl ⟨2, by decide +kernel, rfl, rfl⟩
theorem r_12_partsChild_17 : RW M_X12_partsChild 17 .iaload 18 1 := ⟨by decide +kernel, rfl⟩
theorem r_12_partsChild_18 : RB M_X12_partsChild 18 (.if_icmp .ge) 108 21 := ⟨90, by decide +kernel, rfl, rfl⟩
theorem r_12_partsChild_108 : RI M_X12_partsChild 108 2 1 111 := ⟨by decide, by decide +kernel, rfl⟩
theorem r_12_partsChild_111 : RB M_X12_partsChild 111 .goto 4 114 := ⟨(-107), by decide +kernel, rfl, rfl⟩
theorem r_12_partsChild_21 : RA M_X12_partsChild 21 0 22 := Or.inl ⟨0, by decide +kernel, rfl, rfl⟩
theorem r_12_partsChild_22 : RG M_X12_partsChild 22 12 60 25 := ⟨141, _, by decide +kernel, rfl, by decide, wd_f12_141, rfl, rfl⟩
theorem r_12_partsChild_25 : RC M_X12_partsChild 25 7 27 := ⟨⟨by decide, by decide⟩, Or.inr (Or.inl ⟨by decide +kernel, by decide, rfl⟩)⟩
theorem r_12_partsChild_27 : RL M_X12_partsChild 27 2 28 := Or.inl ⟨2, by decide +kernel, rfl, rfl⟩
theorem r_12_partsChild_28 : RW M_X12_partsChild 28 .imul 29 1 := ⟨by decide +kernel, rfl⟩
theorem r_12_partsChild_29 : RL M_X12_partsChild 29 3 30 := Or.inl ⟨3, by decide +kernel, rfl, rfl⟩
theorem r_12_partsChild_30 : RW M_X12_partsChild 30 .iadd 31 1 := ⟨by decide +kernel, rfl⟩
theorem r_12_partsChild_31 : RW M_X12_partsChild 31 .iaload 32 1 := ⟨by decide +kernel, rfl⟩
theorem r_12_partsChild_32 : RS M_X12_partsChild 32 4 34 := ⟨by decide, Or.inr ⟨by decide +kernel, rfl⟩⟩
theorem r_12_partsChild_34 : RL M_X12_partsChild 34 1 35 := Or.inl ⟨1, by decide +kernel, rfl, rfl⟩
theorem r_12_partsChild_35 : RB M_X12_partsChild 35 (.ifCond .ne) 96 38 := ⟨61, by decide +kernel, rfl, rfl⟩
theorem r_12_partsChild_96 : RC M_X12_partsChild 96 1 97 := ⟨⟨by decide, by decide⟩, Or.inl ⟨by decide +kernel, rfl⟩⟩
theorem r_12_partsChild_97 : RB M_X12_partsChild 97 .goto 101 100 := ⟨4, by decide +kernel, rfl, rfl⟩
theorem r_12_partsChild_101 : RS M_X12_partsChild 101 1 102 := ⟨by decide, Or.inl ⟨1, by decide +kernel, rfl, rfl⟩⟩
theorem r_12_partsChild_102 : RI M_X12_partsChild 102 3 1 105 := ⟨by decide, by decide +kernel, rfl⟩
theorem r_12_partsChild_105 : RB M_X12_partsChild 105 .goto 11 108 := ⟨(-94), by decide +kernel, rfl, rfl⟩
theorem r_12_partsChild_38 : RA M_X12_partsChild 38 0 39 := Or.inl ⟨0, by decide +kernel, rfl, rfl⟩
theorem r_12_partsChild_39 : RG M_X12_partsChild 39 12 6 42 := ⟨22, _, by decide +kernel, rfl, by decide, wd_f12_22, rfl, rfl⟩
theorem r_12_partsChild_42 : RL M_X12_partsChild 42 4 44 := Or.inr ⟨by decide +kernel, rfl⟩
theorem r_12_partsChild_44 : RW M_X12_partsChild 44 .iaload 45 1 := ⟨by decide +kernel, rfl⟩
theorem r_12_partsChild_45 : RC M_X12_partsChild 45 6 47 := ⟨⟨by decide, by decide⟩, Or.inr (Or.inl ⟨by decide +kernel, by decide, rfl⟩)⟩
theorem r_12_partsChild_47 : RB M_X12_partsChild 47 (.if_icmp .ne) 100 50 := ⟨53, by decide +kernel, rfl, rfl⟩
theorem r_12_partsChild_100 : RC M_X12_partsChild 100 0 101 := ⟨⟨by decide, by decide⟩, Or.inl ⟨by decide +kernel, rfl⟩⟩
theorem r_12_partsChild_50 : RA M_X12_partsChild 50 0 51 := Or.inl ⟨0, by decide +kernel, rfl, rfl⟩
theorem r_12_partsChild_51 : RG M_X12_partsChild 51 12 11 54 := ⟨37, _, by decide +kernel, rfl, by decide, wd_f12_37, rfl, rfl⟩
theorem r_12_partsChild_54 : RL M_X12_partsChild 54 4 56 := Or.inr ⟨by decide +kernel, rfl⟩
theorem r_12_partsChild_56 : RW M_X12_partsChild 56 .iaload 57 1 := ⟨by decide +kernel, rfl⟩
theorem r_12_partsChild_57 : RB M_X12_partsChild 57 (.ifCond .lt) 100 60 := ⟨43, by decide +kernel, rfl, rfl⟩
theorem r_12_partsChild_60 : RA M_X12_partsChild 60 0 61 := Or.inl ⟨0, by decide +kernel, rfl, rfl⟩
theorem r_12_partsChild_61 : RA M_X12_partsChild 61 0 62 := Or.inl ⟨0, by decide +kernel, rfl, rfl⟩
theorem r_12_partsChild_62 : RG M_X12_partsChild 62 12 11 65 := ⟨37, _, by decide +kernel, rfl, by decide, wd_f12_37, rfl, rfl⟩
theorem r_12_partsChild_65 : RL M_X12_partsChild 65 4 67 := Or.inr ⟨by decide +kernel, rfl⟩
theorem r_12_partsChild_67 : RW M_X12_partsChild 67 .iaload 68 1 := ⟨by decide +kernel, rfl⟩
theorem r_12_partsChild_68 : RKv M_X12_partsChild M_X12_isOffered 68 1 12 71 := ⟨440, by decide +kernel, wd_m12_440, ok_M_X12_isOffered, wd_s12_isOffered, rfl⟩
theorem r_12_partsChild_71 : RB M_X12_partsChild 71 (.ifCond .eq) 100 74 := ⟨29, by decide +kernel, rfl, rfl⟩
theorem r_12_partsChild_74 : RA M_X12_partsChild 74 0 75 := Or.inl ⟨0, by decide +kernel, rfl, rfl⟩
theorem r_12_partsChild_75 : RG M_X12_partsChild 75 12 67 78 := ⟨162, _, by decide +kernel, rfl, by decide, wd_f12_162, rfl, rfl⟩
theorem r_12_partsChild_78 : RL M_X12_partsChild 78 4 80 := Or.inr ⟨by decide +kernel, rfl⟩
theorem r_12_partsChild_80 : RW M_X12_partsChild 80 .baload 81 1 := ⟨by decide +kernel, rfl⟩
theorem r_12_partsChild_81 : RA M_X12_partsChild 81 0 82 := Or.inl ⟨0, by decide +kernel, rfl, rfl⟩
theorem r_12_partsChild_82 : RG M_X12_partsChild 82 12 67 85 := ⟨162, _, by decide +kernel, rfl, by decide, wd_f12_162, rfl, rfl⟩
theorem r_12_partsChild_85 : RA M_X12_partsChild 85 0 86 := Or.inl ⟨0, by decide +kernel, rfl, rfl⟩
theorem r_12_partsChild_86 : RG M_X12_partsChild 86 12 11 89 := ⟨37, _, by decide +kernel, rfl, by decide, wd_f12_37, rfl, rfl⟩
theorem r_12_partsChild_89 : RL M_X12_partsChild 89 4 91 := Or.inr ⟨by decide +kernel, rfl⟩
theorem r_12_partsChild_91 : RW M_X12_partsChild 91 .iaload 92 1 := ⟨by decide +kernel, rfl⟩
theorem r_12_partsChild_92 : RW M_X12_partsChild 92 .baload 93 1 := ⟨by decide +kernel, rfl⟩
theorem r_12_partsChild_93 : RB M_X12_partsChild 93 (.if_icmp .eq) 100 96 := ⟨7, by decide +kernel, rfl, rfl⟩
theorem r_12_lacksDoctor_0 : RC M_X12_lacksDoctor 0 0 1 := ⟨⟨by decide, by decide⟩, Or.inl ⟨by decide +kernel, rfl⟩⟩
theorem r_12_lacksDoctor_1 : RS M_X12_lacksDoctor 1 1 2 := ⟨by decide, Or.inl ⟨1, by decide +kernel, rfl, rfl⟩⟩
theorem r_12_lacksDoctor_2 : RC M_X12_lacksDoctor 2 0 3 := ⟨⟨by decide, by decide⟩, Or.inl ⟨by decide +kernel, rfl⟩⟩
theorem r_12_lacksDoctor_3 : RS M_X12_lacksDoctor 3 2 4 := ⟨by decide, Or.inl ⟨2, by decide +kernel, rfl, rfl⟩⟩
theorem r_12_lacksDoctor_4 : RL M_X12_lacksDoctor 4 2 5 := Or.inl ⟨2, by decide +kernel, rfl, rfl⟩
theorem r_12_lacksDoctor_5 : RA M_X12_lacksDoctor 5 0 6 := Or.inl ⟨0, by decide +kernel, rfl, rfl⟩
theorem r_12_lacksDoctor_6 : RG M_X12_lacksDoctor 6 12 3 9 := ⟨244, _, by decide +kernel, rfl, by decide, wd_f12_244, rfl, rfl⟩
theorem r_12_lacksDoctor_9 : RB M_X12_lacksDoctor 9 (.if_icmp .ge) 189 12 := ⟨180, by decide +kernel, rfl, rfl⟩
theorem r_12_lacksDoctor_189 : RL M_X12_lacksDoctor 189 1 190 := Or.inl ⟨1, by decide +kernel, rfl, rfl⟩
theorem r_12_lacksDoctor_190 : RW M_X12_lacksDoctor 190 .ireturn 191 1 := ⟨by decide +kernel, rfl⟩
theorem r_12_lacksDoctor_12 : RC M_X12_lacksDoctor 12 0 13 := ⟨⟨by decide, by decide⟩, Or.inl ⟨by decide +kernel, rfl⟩⟩
theorem r_12_lacksDoctor_13 : RS M_X12_lacksDoctor 13 3 14 := ⟨by decide, Or.inl ⟨3, by decide +kernel, rfl, rfl⟩⟩
theorem r_12_lacksDoctor_14 : RC M_X12_lacksDoctor 14 0 15 := ⟨⟨by decide, by decide⟩, Or.inl ⟨by decide +kernel, rfl⟩⟩
theorem r_12_lacksDoctor_15 : RS M_X12_lacksDoctor 15 4 17 := ⟨by decide, Or.inr ⟨by decide +kernel, rfl⟩⟩
theorem r_12_lacksDoctor_17 : RC M_X12_lacksDoctor 17 0 18 := ⟨⟨by decide, by decide⟩, Or.inl ⟨by decide +kernel, rfl⟩⟩
theorem r_12_lacksDoctor_18 : RS M_X12_lacksDoctor 18 5 20 := ⟨by decide, Or.inr ⟨by decide +kernel, rfl⟩⟩
theorem r_12_lacksDoctor_20 : RC M_X12_lacksDoctor 20 0 21 := ⟨⟨by decide, by decide⟩, Or.inl ⟨by decide +kernel, rfl⟩⟩
theorem r_12_lacksDoctor_21 : RS M_X12_lacksDoctor 21 6 23 := ⟨by decide, Or.inr ⟨by decide +kernel, rfl⟩⟩
theorem r_12_lacksDoctor_23 : RL M_X12_lacksDoctor 23 6 25 := Or.inr ⟨by decide +kernel, rfl⟩
theorem r_12_lacksDoctor_25 : RA M_X12_lacksDoctor 25 0 26 := Or.inl ⟨0, by decide +kernel, rfl, rfl⟩
theorem r_12_lacksDoctor_26 : RG M_X12_lacksDoctor 26 12 17 29 := ⟨251, _, by decide +kernel, rfl, by decide, wd_f12_251, rfl, rfl⟩
theorem r_12_lacksDoctor_29 : RB M_X12_lacksDoctor 29 (.if_icmp .ge) 139 32 := ⟨110, by decide +kernel, rfl, rfl⟩
theorem r_12_lacksDoctor_139 : RL M_X12_lacksDoctor 139 3 140 := Or.inl ⟨3, by decide +kernel, rfl, rfl⟩
theorem r_12_lacksDoctor_140 : RA M_X12_lacksDoctor 140 0 141 := Or.inl ⟨0, by decide +kernel, rfl, rfl⟩
theorem r_12_lacksDoctor_141 : RG M_X12_lacksDoctor 141 12 62 144 := ⟨147, _, by decide +kernel, rfl, by decide, wd_f12_147, rfl, rfl⟩
theorem r_12_lacksDoctor_144 : RW M_X12_lacksDoctor 144 .iadd 145 1 := ⟨by decide +kernel, rfl⟩
theorem r_12_lacksDoctor_145 : RC M_X12_lacksDoctor 145 1 146 := ⟨⟨by decide, by decide⟩, Or.inl ⟨by decide +kernel, rfl⟩⟩
theorem r_12_lacksDoctor_146 : RW M_X12_lacksDoctor 146 .isub 147 1 := ⟨by decide +kernel, rfl⟩
theorem r_12_lacksDoctor_147 : RA M_X12_lacksDoctor 147 0 148 := Or.inl ⟨0, by decide +kernel, rfl, rfl⟩
theorem r_12_lacksDoctor_148 : RG M_X12_lacksDoctor 148 12 62 151 := ⟨147, _, by decide +kernel, rfl, by decide, wd_f12_147, rfl, rfl⟩
theorem r_12_lacksDoctor_151 : RW M_X12_lacksDoctor 151 .idiv 152 1 := ⟨by decide +kernel, rfl⟩
theorem r_12_lacksDoctor_152 : RS M_X12_lacksDoctor 152 6 154 := ⟨by decide, Or.inr ⟨by decide +kernel, rfl⟩⟩
theorem r_12_lacksDoctor_154 : RL M_X12_lacksDoctor 154 1 155 := Or.inl ⟨1, by decide +kernel, rfl, rfl⟩
theorem r_12_lacksDoctor_155 : RB M_X12_lacksDoctor 155 (.ifCond .ne) 177 158 := ⟨22, by decide +kernel, rfl, rfl⟩
theorem r_12_lacksDoctor_177 : RC M_X12_lacksDoctor 177 1 178 := ⟨⟨by decide, by decide⟩, Or.inl ⟨by decide +kernel, rfl⟩⟩
theorem r_12_lacksDoctor_178 : RB M_X12_lacksDoctor 178 .goto 182 181 := ⟨4, by decide +kernel, rfl, rfl⟩
theorem r_12_lacksDoctor_182 : RS M_X12_lacksDoctor 182 1 183 := ⟨by decide, Or.inl ⟨1, by decide +kernel, rfl, rfl⟩⟩
theorem r_12_lacksDoctor_183 : RI M_X12_lacksDoctor 183 2 1 186 := ⟨by decide, by decide +kernel, rfl⟩
theorem r_12_lacksDoctor_186 : RB M_X12_lacksDoctor 186 .goto 4 189 := ⟨(-182), by decide +kernel, rfl, rfl⟩
theorem r_12_lacksDoctor_158 : RL M_X12_lacksDoctor 158 5 160 := Or.inr ⟨by decide +kernel, rfl⟩
theorem r_12_lacksDoctor_160 : RL M_X12_lacksDoctor 160 6 162 := Or.inr ⟨by decide +kernel, rfl⟩
theorem r_12_lacksDoctor_162 : RL M_X12_lacksDoctor 162 4 164 := Or.inr ⟨by decide +kernel, rfl⟩
theorem r_12_lacksDoctor_164 : RB M_X12_lacksDoctor 164 (.if_icmp .ge) 172 167 := ⟨8, by decide +kernel, rfl, rfl⟩
theorem r_12_lacksDoctor_172 : RL M_X12_lacksDoctor 172 4 174 := Or.inr ⟨by decide +kernel, rfl⟩
theorem r_12_lacksDoctor_174 : RB M_X12_lacksDoctor 174 (.if_icmp .ge) 181 177 := ⟨7, by decide +kernel, rfl, rfl⟩
theorem r_12_lacksDoctor_181 : RC M_X12_lacksDoctor 181 0 182 := ⟨⟨by decide, by decide⟩, Or.inl ⟨by decide +kernel, rfl⟩⟩
theorem r_12_lacksDoctor_167 : RL M_X12_lacksDoctor 167 6 169 := Or.inr ⟨by decide +kernel, rfl⟩
theorem r_12_lacksDoctor_169 : RB M_X12_lacksDoctor 169 .goto 174 172 := ⟨5, by decide +kernel, rfl, rfl⟩
theorem r_12_lacksDoctor_32 : RA M_X12_lacksDoctor 32 0 33 := Or.inl ⟨0, by decide +kernel, rfl, rfl⟩
theorem r_12_lacksDoctor_33 : RG M_X12_lacksDoctor 33 12 8 36 := ⟨28, _, by decide +kernel, rfl, by decide, wd_f12_28, rfl, rfl⟩
theorem r_12_lacksDoctor_36 : RL M_X12_lacksDoctor 36 6 38 := Or.inr ⟨by decide +kernel, rfl⟩
theorem r_12_lacksDoctor_38 : RW M_X12_lacksDoctor 38 .iaload 39 1 := ⟨by decide +kernel, rfl⟩
theorem r_12_lacksDoctor_39 : RB M_X12_lacksDoctor 39 (.ifCond .ne) 133 42 := ⟨94, by decide +kernel, rfl, rfl⟩
theorem r_12_lacksDoctor_133 : RI M_X12_lacksDoctor 133 6 1 136 := ⟨by decide, by decide +kernel, rfl⟩
theorem r_12_lacksDoctor_136 : RB M_X12_lacksDoctor 136 .goto 23 139 := ⟨(-113), by decide +kernel, rfl, rfl⟩
theorem r_12_lacksDoctor_42 : RA M_X12_lacksDoctor 42 0 43 := Or.inl ⟨0, by decide +kernel, rfl, rfl⟩
theorem r_12_lacksDoctor_43 : RG M_X12_lacksDoctor 43 12 9 46 := ⟨31, _, by decide +kernel, rfl, by decide, wd_f12_31, rfl, rfl⟩
theorem r_12_lacksDoctor_46 : RL M_X12_lacksDoctor 46 6 48 := Or.inr ⟨by decide +kernel, rfl⟩
theorem r_12_lacksDoctor_48 : RW M_X12_lacksDoctor 48 .iaload 49 1 := ⟨by decide +kernel, rfl⟩
theorem r_12_lacksDoctor_49 : RL M_X12_lacksDoctor 49 2 50 := Or.inl ⟨2, by decide +kernel, rfl, rfl⟩
theorem r_12_lacksDoctor_50 : RB M_X12_lacksDoctor 50 (.if_icmp .ne) 133 53 := ⟨83, by decide +kernel, rfl, rfl⟩
theorem r_12_lacksDoctor_53 : RL M_X12_lacksDoctor 53 3 54 := Or.inl ⟨3, by decide +kernel, rfl, rfl⟩
theorem r_12_lacksDoctor_54 : RA M_X12_lacksDoctor 54 0 55 := Or.inl ⟨0, by decide +kernel, rfl, rfl⟩
theorem r_12_lacksDoctor_55 : RG M_X12_lacksDoctor 55 12 12 58 := ⟨40, _, by decide +kernel, rfl, by decide, wd_f12_40, rfl, rfl⟩
theorem r_12_lacksDoctor_58 : RL M_X12_lacksDoctor 58 6 60 := Or.inr ⟨by decide +kernel, rfl⟩
theorem r_12_lacksDoctor_60 : RW M_X12_lacksDoctor 60 .iaload 61 1 := ⟨by decide +kernel, rfl⟩
theorem r_12_lacksDoctor_61 : RB M_X12_lacksDoctor 61 (.ifCond .le) 78 64 := ⟨17, by decide +kernel, rfl, rfl⟩
theorem r_12_lacksDoctor_78 : RC M_X12_lacksDoctor 78 0 79 := ⟨⟨by decide, by decide⟩, Or.inl ⟨by decide +kernel, rfl⟩⟩
theorem r_12_lacksDoctor_79 : RW M_X12_lacksDoctor 79 .iadd 80 1 := ⟨by decide +kernel, rfl⟩
theorem r_12_lacksDoctor_80 : RS M_X12_lacksDoctor 80 3 81 := ⟨by decide, Or.inl ⟨3, by decide +kernel, rfl, rfl⟩⟩
theorem r_12_lacksDoctor_81 : RL M_X12_lacksDoctor 81 4 83 := Or.inr ⟨by decide +kernel, rfl⟩
theorem r_12_lacksDoctor_83 : RA M_X12_lacksDoctor 83 0 84 := Or.inl ⟨0, by decide +kernel, rfl, rfl⟩
theorem r_12_lacksDoctor_84 : RG M_X12_lacksDoctor 84 12 6 87 := ⟨22, _, by decide +kernel, rfl, by decide, wd_f12_22, rfl, rfl⟩
theorem r_12_lacksDoctor_87 : RL M_X12_lacksDoctor 87 6 89 := Or.inr ⟨by decide +kernel, rfl⟩
theorem r_12_lacksDoctor_89 : RW M_X12_lacksDoctor 89 .iaload 90 1 := ⟨by decide +kernel, rfl⟩
theorem r_12_lacksDoctor_90 : RC M_X12_lacksDoctor 90 3 91 := ⟨⟨by decide, by decide⟩, Or.inl ⟨by decide +kernel, rfl⟩⟩
theorem r_12_lacksDoctor_91 : RB M_X12_lacksDoctor 91 (.if_icmp .ne) 98 94 := ⟨7, by decide +kernel, rfl, rfl⟩
theorem r_12_lacksDoctor_98 : RC M_X12_lacksDoctor 98 0 99 := ⟨⟨by decide, by decide⟩, Or.inl ⟨by decide +kernel, rfl⟩⟩
theorem r_12_lacksDoctor_99 : RW M_X12_lacksDoctor 99 .iadd 100 1 := ⟨by decide +kernel, rfl⟩
theorem r_12_lacksDoctor_100 : RS M_X12_lacksDoctor 100 4 102 := ⟨by decide, Or.inr ⟨by decide +kernel, rfl⟩⟩
theorem r_12_lacksDoctor_102 : RL M_X12_lacksDoctor 102 5 104 := Or.inr ⟨by decide +kernel, rfl⟩
theorem r_12_lacksDoctor_104 : RA M_X12_lacksDoctor 104 0 105 := Or.inl ⟨0, by decide +kernel, rfl, rfl⟩
theorem r_12_lacksDoctor_105 : RG M_X12_lacksDoctor 105 12 6 108 := ⟨22, _, by decide +kernel, rfl, by decide, wd_f12_22, rfl, rfl⟩
theorem r_12_lacksDoctor_108 : RL M_X12_lacksDoctor 108 6 110 := Or.inr ⟨by decide +kernel, rfl⟩
theorem r_12_lacksDoctor_110 : RW M_X12_lacksDoctor 110 .iaload 111 1 := ⟨by decide +kernel, rfl⟩
theorem r_12_lacksDoctor_111 : RC M_X12_lacksDoctor 111 3 112 := ⟨⟨by decide, by decide⟩, Or.inl ⟨by decide +kernel, rfl⟩⟩
theorem r_12_lacksDoctor_112 : RB M_X12_lacksDoctor 112 (.if_icmp .ne) 129 115 := ⟨17, by decide +kernel, rfl, rfl⟩
theorem r_12_lacksDoctor_129 : RC M_X12_lacksDoctor 129 0 130 := ⟨⟨by decide, by decide⟩, Or.inl ⟨by decide +kernel, rfl⟩⟩
theorem r_12_lacksDoctor_130 : RW M_X12_lacksDoctor 130 .iadd 131 1 := ⟨by decide +kernel, rfl⟩
theorem r_12_lacksDoctor_131 : RS M_X12_lacksDoctor 131 5 133 := ⟨by decide, Or.inr ⟨by decide +kernel, rfl⟩⟩
theorem r_12_lacksDoctor_115 : RA M_X12_lacksDoctor 115 0 116 := Or.inl ⟨0, by decide +kernel, rfl, rfl⟩
theorem r_12_lacksDoctor_116 : RG M_X12_lacksDoctor 116 12 67 119 := ⟨162, _, by decide +kernel, rfl, by decide, wd_f12_162, rfl, rfl⟩
theorem r_12_lacksDoctor_119 : RL M_X12_lacksDoctor 119 6 121 := Or.inr ⟨by decide +kernel, rfl⟩
theorem r_12_lacksDoctor_121 : RW M_X12_lacksDoctor 121 .baload 122 1 := ⟨by decide +kernel, rfl⟩
theorem r_12_lacksDoctor_122 : RB M_X12_lacksDoctor 122 (.ifCond .ne) 129 125 := ⟨7, by decide +kernel, rfl, rfl⟩
theorem r_12_lacksDoctor_125 : RC M_X12_lacksDoctor 125 1 126 := ⟨⟨by decide, by decide⟩, Or.inl ⟨by decide +kernel, rfl⟩⟩
theorem r_12_lacksDoctor_126 : RB M_X12_lacksDoctor 126 .goto 130 129 := ⟨4, by decide +kernel, rfl, rfl⟩
theorem r_12_lacksDoctor_94 : RC M_X12_lacksDoctor 94 1 95 := ⟨⟨by decide, by decide⟩, Or.inl ⟨by decide +kernel, rfl⟩⟩
theorem r_12_lacksDoctor_95 : RB M_X12_lacksDoctor 95 .goto 99 98 := ⟨4, by decide +kernel, rfl, rfl⟩
theorem r_12_lacksDoctor_64 : RA M_X12_lacksDoctor 64 0 65 := Or.inl ⟨0, by decide +kernel, rfl, rfl⟩
theorem r_12_lacksDoctor_65 : RG M_X12_lacksDoctor 65 12 67 68 := ⟨162, _, by decide +kernel, rfl, by decide, wd_f12_162, rfl, rfl⟩
theorem r_12_lacksDoctor_68 : RL M_X12_lacksDoctor 68 6 70 := Or.inr ⟨by decide +kernel, rfl⟩
theorem r_12_lacksDoctor_70 : RW M_X12_lacksDoctor 70 .baload 71 1 := ⟨by decide +kernel, rfl⟩
theorem r_12_lacksDoctor_71 : RB M_X12_lacksDoctor 71 (.ifCond .ne) 78 74 := ⟨7, by decide +kernel, rfl, rfl⟩
theorem r_12_lacksDoctor_74 : RC M_X12_lacksDoctor 74 1 75 := ⟨⟨by decide, by decide⟩, Or.inl ⟨by decide +kernel, rfl⟩⟩
theorem r_12_lacksDoctor_75 : RB M_X12_lacksDoctor 75 .goto 79 78 := ⟨4, by decide +kernel, rfl, rfl⟩
set_option maxRecDepth 10000 in
theorem sp_X12_findOffered {l : Launch} {w : Wo} {d : Nat} {G : PH} {P : Option PV → PH → Prop} {ST : Int → Int → Int → Prop} {WT : Int → Int → Int → Int → Int} {SD : Int → Int → Int → Int → Int → Int × Int} {FC : Int → Int → Int → Int} {KC : Int → Int → Int → Int → Int} (hsz : 0 ≤ (gF G 12 0 17) ∧ (gF G 12 0 17) ≤ 150) (hf : 0 ≤ (gF G 12 0 27) ∧ (gF G 12 0 27) ≤ 300) (hlt : 0 ≤ (gF G 12 0 29) ∧ (gF G 12 0 29) ≤ 60) (hofs : ∀ i, 0 ≤ i → i < (gF G 12 0 27) → 0 ≤ (gA G 219 0 (i)) ∧ (gA G 219 0 (i)) < 150) (hsent : ∀ l, 0 ≤ l → l < (gF G 12 0 29) → 0 ≤ (gA G 223 0 (l)) ∧ (gA G 223 0 (l)) ≤ 600) (hpr : 0 ≤ (gF G 12 0 34) ∧ (gF G 12 0 34) ≤ 40) (htx : 0 ≤ (gF G 12 0 42) ∧ (gF G 12 0 42) ≤ 20) (hTX : txM G) (hSD : sdM G = SD) (hFC : fcM G = FC) (hKC : kM G = KC) (hcA : ∀ i, 0 ≤ i → i < (gF G 12 0 17) → 0 ≤ (gA G 212 0 (i)) ∧ (gA G 212 0 (i)) ≤ 600) (hsA : ∀ i, 0 ≤ i → i < (gF G 12 0 17) → 0 ≤ (gA G 205 0 (i)) ∧ (gA G 205 0 (i)) ≤ 1) (hlv : ∀ s i, 0 ≤ s → s < 2 → 0 ≤ i → i < (gA G 243 0 (s)) → 0 ≤ (gA G 242 0 (7 * s + i)) ∧ (gA G 242 0 (7 * s + i)) < (gF G 12 0 17)) (hof : ∀ s, 0 ≤ s → s < 2 → 0 ≤ (gA G 243 0 (s)) ∧ (gA G 243 0 (s)) ≤ 7) (hdd : 0 ≤ (gF G 12 0 0) ∧ (gF G 12 0 0) ≤ 600) (hST : stM G = ST) (hWT : wtM G = WT) (hP : ∀ g : FQ, (∀ s i, 0 ≤ s → s < 2 → 0 ≤ i → i < (gA G 243 0 (s)) → fOk (fun p => ST p (gF G 12 0 0) (gF G 12 0 0)) (fun p => WT p 0 (gF G 12 0 0) (gF G 12 0 0)) (fun p => WT p 1 (gF G 12 0 0) (gF G 12 0 0)) (gA G 242 0) g.2.1 g.2.2 (s) (i)) → P none (fndM G g)) : PW l w M_X12_findOffered (d + 100) 0 [some (vR 12 (0)), none, none, none, none] [] G P := by
  refine pw_const r_12_findOffered_0 ?_
  refine pw_istore (ls' := [some (vR 12 (0)), some (vI (0)), none, none, none]) r_12_findOffered_1 rfl rfl ?_
  have L2 : ∀ (nF : Nat) (s : Int) (g1 : FQ), (hs : 0 ≤ s ∧ s ≤ 2) → (hf1 : ∀ s1 i1, 0 ≤ s1 → 0 ≤ i1 → (s1 < s ∧ i1 < (gA G 243 0 (s1))) → fOk (fun p => ST p (gF G 12 0 0) (gF G 12 0 0)) (fun p => WT p 0 (gF G 12 0 0) (gF G 12 0 0)) (fun p => WT p 1 (gF G 12 0 0) (gF G 12 0 0)) (gA G 242 0) g1.2.1 g1.2.2 (s1) (i1)) → (2 - s).toNat < nF → PW l w M_X12_findOffered (d + 100) 2 [some (vR 12 (0)), some (vI (s)), none, none, none] [] (fndM G g1) P := by
    intro nF
    induction nF with
    | zero => intro _ _ _ _ hM; exact absurd hM (Nat.not_lt_zero _)
    | succ nF ih2 =>
      intro s g1 hs hf1 hM2
      refine pw_iload r_12_findOffered_2 rfl ?_
      refine pw_const r_12_findOffered_3 ?_
      refine pw_icmp_ge r_12_findOffered_4 (fun h04 => ?_) (fun h04 => ?_)
      · skip
        refine pw_vret r_12_findOffered_113 rfl (Nat.le_refl _) ⟨rfl, ?_⟩
        exact hP g1 (fun s1 i1 a1 a2 a3 a4 => hf1 s1 i1 a1 a3 ⟨by omega, a4⟩)
      · skip
        have hn6 := hof s hs.1 (by omega)
        refine pw_const r_12_findOffered_7 ?_
        refine pw_istore (ls' := [some (vR 12 (0)), some (vI (s)), some (vI (0)), none, none]) r_12_findOffered_8 rfl rfl ?_
        have L9 : ∀ (nF : Nat) (i : Int) (g2 : FQ), (hi : 0 ≤ i ∧ i ≤ (gA G 243 0 (s))) → (hf2 : ∀ s1 i1, 0 ≤ s1 → 0 ≤ i1 → ((s1 < s ∧ i1 < (gA G 243 0 (s1))) ∨ (s1 = s ∧ i1 < i)) → fOk (fun p => ST p (gF G 12 0 0) (gF G 12 0 0)) (fun p => WT p 0 (gF G 12 0 0) (gF G 12 0 0)) (fun p => WT p 1 (gF G 12 0 0) (gF G 12 0 0)) (gA G 242 0) g2.2.1 g2.2.2 (s1) (i1)) → ((gA G 243 0 (s)) - i).toNat < nF → PW l w M_X12_findOffered (d + 100) 9 [some (vR 12 (0)), some (vI (s)), some (vI (i)), none, none] [] (fndM G g2) P := by
          intro nF
          induction nF with
          | zero => intro _ _ _ _ hM; exact absurd hM (Nat.not_lt_zero _)
          | succ nF ih9 =>
            intro i g2 hi hf2 hM9
            have hn7 := hof s hs.1 (by omega)
            refine pw_iload r_12_findOffered_9 rfl ?_
            refine pw_aload r_12_findOffered_10 rfl ?_
            refine pw_getR r_12_findOffered_11 fs_12_61 (by decide) ?_
            refine pw_iload r_12_findOffered_14 rfl ?_
            refine pw_ialdv (v := gA G 243 (0) (s)) r_12_findOffered_15 sh243 (by omega) (by omega) (by first | rfl | simp [gF_sF, gF_sA, gF_uA, gF_sD, gA_sF, gA_sA, gA_uA, gA_sD, gD_sF, gD_sA, gD_uA, gD_sD]) ?_
            refine pw_icmp_ge r_12_findOffered_16 (fun h16 => ?_) (fun h16 => ?_)
            · skip
              refine pw_iinc (b := 0) (ls' := [some (vR 12 (0)), some (vI ((s + 1))), some (vI (i)), none, none]) r_12_findOffered_107 rfl rfl (by omega) rfl ?_
              refine pw_goto r_12_findOffered_110 ?_
              refine pw_weakL (ls' := [some (vR 12 (0)), some (vI ((s + 1))), none, none, none]) (⟨rfl, ⟨rfl, trivial⟩⟩) ?_
              exact ih2 ((s + 1)) (g2) (by first | assumption | omega) (fun s1 i1 a1 a2 a3 => hf2 s1 i1 a1 a2 (by rcases (show s1 < s ∨ s1 = s by omega) with z | z; exact Or.inl ⟨z, a3.2⟩; exact Or.inr ⟨z, by have h9 := a3.2; rw [z] at h9; omega⟩)) (by omega)
            · skip
              refine pw_aload r_12_findOffered_19 rfl ?_
              refine pw_getR r_12_findOffered_20 fs_12_60 (by decide) ?_
              refine pw_const r_12_findOffered_23 ?_
              refine pw_iload r_12_findOffered_25 rfl ?_
              refine pw_imul r_12_findOffered_26 (by omega) ?_
              refine pw_iload r_12_findOffered_27 rfl ?_
              refine pw_iadd r_12_findOffered_28 (by omega) ?_
              refine pw_ialdv (v := gA G 242 (0) (((7 * s) + i))) r_12_findOffered_29 sh242 (by omega) (by omega) (by first | rfl | simp [gF_sF, gF_sA, gF_uA, gF_sD, gA_sF, gA_sA, gA_uA, gA_sD, gD_sF, gD_sA, gD_uA, gD_sD]) ?_
              refine pw_istore (ls' := [some (vR 12 (0)), some (vI (s)), some (vI (i)), some (vI (gA G 242 (0) (((7 * s) + i)))), none]) r_12_findOffered_30 rfl rfl ?_
              refine pw_aload r_12_findOffered_31 rfl ?_
              refine pw_getR r_12_findOffered_32 fs_12_65 (by decide) ?_
              refine pw_const r_12_findOffered_35 ?_
              refine pw_iload r_12_findOffered_37 rfl ?_
              refine pw_imul r_12_findOffered_38 (by omega) ?_
              refine pw_iload r_12_findOffered_39 rfl ?_
              refine pw_iadd r_12_findOffered_40 (by omega) ?_
              refine pw_aload r_12_findOffered_41 rfl ?_
              refine pw_iload r_12_findOffered_42 rfl ?_
              refine pw_aload r_12_findOffered_43 rfl ?_
              refine pw_getIv (v := gF G 12 (0) 0) r_12_findOffered_44 fs_12_0 (by decide) (by first | rfl | simp [gF_sF, gF_sA, gF_uA, gF_sD, gA_sF, gA_sA, gA_uA, gA_sD, gD_sF, gD_sA, gD_uA, gD_sD]) ?_
              refine pw_aload r_12_findOffered_47 rfl ?_
              refine pw_getIv (v := gF G 12 (0) 0) r_12_findOffered_48 fs_12_0 (by decide) (by first | rfl | simp [gF_sF, gF_sA, gF_uA, gF_sD, gA_sF, gA_sA, gA_uA, gA_sD, gD_sF, gD_sA, gD_uA, gD_sD]) ?_
              refine pw_callV (av := [vI (gA G 242 (0) (((7 * s) + i))), vI (gF G 12 (0) 0), vI (gF G 12 (0) 0)]) (st := [vI (((7 * s) + i)), vR 245 (0)]) (ls0 := [some (vR 12 (0)), some (vI (gA G 242 (0) (((7 * s) + i)))), some (vI (gF G 12 (0) 0)), some (vI (gF G 12 (0) 0)), none]) r_12_findOffered_51 rfl rfl rfl (Nat.le_refl _) ?_
              refine sp_X12_mayStayOn (SD := SD) (FC := FC) (KC := KC) (ST := ST) (by exact hsz) (by exact hf) (by exact hlt) (by exact hofs) (by exact hsent) (by exact hpr) (by exact htx) (by exact hTX) (by exact hSD) (by exact hFC) (by exact hKC) (by exact hcA) (by exact hsA) (hlv s i hs.1 (by omega) hi.1 (by omega)) (hdd) (by exact hST) ?_
              intro q1
              refine pw_zast r_12_findOffered_54 sh245 (by first | omega | exact b2i_01 _) (by first | omega | exact b2i_01 _) (by first | omega | exact b2i_01 _) ?_
              refine pw_const r_12_findOffered_55 ?_
              refine pw_istore (ls' := [some (vR 12 (0)), some (vI (s)), some (vI (i)), some (vI (gA G 242 (0) (((7 * s) + i)))), some (vI (0))]) r_12_findOffered_56 rfl rfl ?_
              refine pw_iload r_12_findOffered_58 rfl ?_
              refine pw_const r_12_findOffered_60 ?_
              refine pw_icmp_ge r_12_findOffered_61 (fun h61 => absurd h61 (by decide)) (fun h61 => ?_)
              refine pw_aload r_12_findOffered_64 rfl ?_
              refine pw_getR r_12_findOffered_65 fs_12_66 (by decide) ?_
              refine pw_const r_12_findOffered_68 ?_
              refine pw_const r_12_findOffered_69 ?_
              refine pw_iload r_12_findOffered_71 rfl ?_
              refine pw_imul r_12_findOffered_72 (by omega) ?_
              refine pw_iload r_12_findOffered_73 rfl ?_
              refine pw_iadd r_12_findOffered_74 (by omega) ?_
              refine pw_imul r_12_findOffered_75 (by omega) ?_
              refine pw_iload r_12_findOffered_76 rfl ?_
              refine pw_iadd r_12_findOffered_78 (by omega) ?_
              refine pw_aload r_12_findOffered_79 rfl ?_
              refine pw_iload r_12_findOffered_80 rfl ?_
              refine pw_iload r_12_findOffered_81 rfl ?_
              refine pw_aload r_12_findOffered_83 rfl ?_
              refine pw_getIv (v := gF G 12 (0) 0) r_12_findOffered_84 fs_12_0 (by decide) (by first | rfl | simp [gF_sF, gF_sA, gF_uA, gF_sD, gA_sF, gA_sA, gA_uA, gA_sD, gD_sF, gD_sA, gD_uA, gD_sD]) ?_
              refine pw_aload r_12_findOffered_87 rfl ?_
              refine pw_getIv (v := gF G 12 (0) 0) r_12_findOffered_88 fs_12_0 (by decide) (by first | rfl | simp [gF_sF, gF_sA, gF_uA, gF_sD, gA_sF, gA_sA, gA_uA, gA_sD, gD_sF, gD_sA, gD_uA, gD_sD]) ?_
              refine pw_callV (av := [vI (gA G 242 (0) (((7 * s) + i))), vI (0), vI (gF G 12 (0) 0), vI (gF G 12 (0) 0)]) (st := [vI (((2 * ((7 * s) + i)) + 0)), vR 246 (0)]) (ls0 := [some (vR 12 (0)), some (vI (gA G 242 (0) (((7 * s) + i)))), some (vI (0)), some (vI (gF G 12 (0) 0)), some (vI (gF G 12 (0) 0)), none, none]) r_12_findOffered_91 rfl rfl rfl (Nat.le_refl _) ?_
              refine sp_X12_worthOf (SD := SD) (FC := FC) (KC := KC) (WT := WT) (by exact hsz) (by exact hf) (by exact hlt) (by exact hofs) (by exact hsent) (by exact hpr) (by exact htx) (by exact hTX) (by exact hSD) (by exact hFC) (by exact hKC) (by exact hcA) (by exact hsA) (hlv s i hs.1 (by omega) hi.1 (by omega)) (by decide) (hdd) (by exact hWT) ?_
              intro q2
              refine pw_iast r_12_findOffered_94 sh246 (by omega) (by omega) ?_
              refine pw_iinc (b := 0) (ls' := [some (vR 12 (0)), some (vI (s)), some (vI (i)), some (vI (gA G 242 (0) (((7 * s) + i)))), some (vI (1))]) r_12_findOffered_95 rfl rfl (by omega) rfl ?_
              refine pw_goto r_12_findOffered_98 ?_
              refine pw_iload r_12_findOffered_58 rfl ?_
              refine pw_const r_12_findOffered_60 ?_
              refine pw_icmp_ge r_12_findOffered_61 (fun h61 => absurd h61 (by decide)) (fun h61 => ?_)
              refine pw_aload r_12_findOffered_64 rfl ?_
              refine pw_getR r_12_findOffered_65 fs_12_66 (by decide) ?_
              refine pw_const r_12_findOffered_68 ?_
              refine pw_const r_12_findOffered_69 ?_
              refine pw_iload r_12_findOffered_71 rfl ?_
              refine pw_imul r_12_findOffered_72 (by omega) ?_
              refine pw_iload r_12_findOffered_73 rfl ?_
              refine pw_iadd r_12_findOffered_74 (by omega) ?_
              refine pw_imul r_12_findOffered_75 (by omega) ?_
              refine pw_iload r_12_findOffered_76 rfl ?_
              refine pw_iadd r_12_findOffered_78 (by omega) ?_
              refine pw_aload r_12_findOffered_79 rfl ?_
              refine pw_iload r_12_findOffered_80 rfl ?_
              refine pw_iload r_12_findOffered_81 rfl ?_
              refine pw_aload r_12_findOffered_83 rfl ?_
              refine pw_getIv (v := gF G 12 (0) 0) r_12_findOffered_84 fs_12_0 (by decide) (by first | rfl | simp [gF_sF, gF_sA, gF_uA, gF_sD, gA_sF, gA_sA, gA_uA, gA_sD, gD_sF, gD_sA, gD_uA, gD_sD]) ?_
              refine pw_aload r_12_findOffered_87 rfl ?_
              refine pw_getIv (v := gF G 12 (0) 0) r_12_findOffered_88 fs_12_0 (by decide) (by first | rfl | simp [gF_sF, gF_sA, gF_uA, gF_sD, gA_sF, gA_sA, gA_uA, gA_sD, gD_sF, gD_sA, gD_uA, gD_sD]) ?_
              refine pw_callV (av := [vI (gA G 242 (0) (((7 * s) + i))), vI (1), vI (gF G 12 (0) 0), vI (gF G 12 (0) 0)]) (st := [vI (((2 * ((7 * s) + i)) + 1)), vR 246 (0)]) (ls0 := [some (vR 12 (0)), some (vI (gA G 242 (0) (((7 * s) + i)))), some (vI (1)), some (vI (gF G 12 (0) 0)), some (vI (gF G 12 (0) 0)), none, none]) r_12_findOffered_91 rfl rfl rfl (Nat.le_refl _) ?_
              refine sp_X12_worthOf (SD := SD) (FC := FC) (KC := KC) (WT := WT) (by exact hsz) (by exact hf) (by exact hlt) (by exact hofs) (by exact hsent) (by exact hpr) (by exact htx) (by exact hTX) (by exact hSD) (by exact hFC) (by exact hKC) (by exact hcA) (by exact hsA) (hlv s i hs.1 (by omega) hi.1 (by omega)) (by decide) (hdd) (by exact hWT) ?_
              intro q3
              refine pw_iast r_12_findOffered_94 sh246 (by omega) (by omega) ?_
              refine pw_iinc (b := 0) (ls' := [some (vR 12 (0)), some (vI (s)), some (vI (i)), some (vI (gA G 242 (0) (((7 * s) + i)))), some (vI (2))]) r_12_findOffered_95 rfl rfl (by omega) rfl ?_
              refine pw_goto r_12_findOffered_98 ?_
              refine pw_iload r_12_findOffered_58 rfl ?_
              refine pw_const r_12_findOffered_60 ?_
              refine pw_icmp_ge r_12_findOffered_61 (fun h61 => ?_) (fun h61 => absurd h61 (by decide))
              refine pw_iinc (b := 0) (ls' := [some (vR 12 (0)), some (vI (s)), some (vI ((i + 1))), some (vI (gA G 242 (0) (((7 * s) + i)))), some (vI (2))]) r_12_findOffered_101 rfl rfl (by omega) rfl ?_
              refine pw_goto r_12_findOffered_104 ?_
              refine pw_weakL (ls' := [some (vR 12 (0)), some (vI (s)), some (vI ((i + 1))), none, none]) (⟨rfl, ⟨rfl, ⟨rfl, trivial⟩⟩⟩) ?_
              refine pw_eqG (G' := fndM G (q3, upA g2.2.1 (7 * s + i) (b2i (ST (gA G 242 0 (((7 * s) + i))) (gF G 12 0 0) (gF G 12 0 0))), upA (upA g2.2.2 (2 * (7 * s + i)) (WT (gA G 242 0 (((7 * s) + i))) 0 (gF G 12 0 0) (gF G 12 0 0))) (2 * (7 * s + i) + 1) (WT (gA G 242 0 (((7 * s) + i))) 1 (gF G 12 0 0) (gF G 12 0 0)))) (by rw [fnd_rst, fnd_45, fnd_rst, fnd_46, fnd_rst, fnd_46, show 2 * (7 * s + i) + 0 = 2 * (7 * s + i) by omega]) ?_
              exact ih9 ((i + 1)) ((q3, upA g2.2.1 (7 * s + i) (b2i (ST (gA G 242 0 (((7 * s) + i))) (gF G 12 0 0) (gF G 12 0 0))), upA (upA g2.2.2 (2 * (7 * s + i)) (WT (gA G 242 0 (((7 * s) + i))) 0 (gF G 12 0 0) (gF G 12 0 0))) (2 * (7 * s + i) + 1) (WT (gA G 242 0 (((7 * s) + i))) 1 (gF G 12 0 0) (gF G 12 0 0)))) (by first | assumption | omega) (by intro s1 i1 a1 a2 a3; by_cases z : s1 = s ∧ i1 = i; rw [z.1, z.2]; exact fOk_new rfl rfl rfl; exact fOk_old (by rcases a3 with y | y; have y1 := hof s1 a1 (by omega); omega; omega) (hf2 s1 i1 a1 a2 (by omega))) (by omega)
        exact L9 _ (0) (g1) (by first | assumption | omega) (fun s1 i1 a1 a2 a3 => hf1 s1 i1 a1 a2 (by omega)) (Nat.lt_succ_self _)
  refine pw_eqG (G' := fndM G (fndQ G)) ((fnd_self G).symm) ?_
  exact L2 _ (0) ((fndQ G)) (by first | assumption | omega) (fun s1 i1 a1 a2 a3 => by omega) (Nat.lt_succ_self _)
set_option maxRecDepth 10000 in
theorem sp_X12_isOffered {l : Launch} {w : Wo} {d : Nat} {G : PH} {P : Option PV → PH → Prop} {p : Int} (hpv : 0 ≤ p ∧ p < 150) (hh : 0 ≤ (gA G 205 0 (p)) ∧ (gA G 205 0 (p)) ≤ 1) (hn : 0 ≤ (gA G 243 0 ((gA G 205 0 (p)))) ∧ (gA G 243 0 ((gA G 205 0 (p)))) ≤ 7) (hP : P (some (vI (b2i (ofM G p)))) G) : PW l w M_X12_isOffered (d + 0) 0 [some (vR 12 (0)), some (vI (p)), none, none] [] G P := by
  refine pw_const r_12_isOffered_0 ?_
  refine pw_istore (ls' := [some (vR 12 (0)), some (vI (p)), some (vI (0)), none]) r_12_isOffered_1 rfl rfl ?_
  refine pw_const r_12_isOffered_2 ?_
  refine pw_istore (ls' := [some (vR 12 (0)), some (vI (p)), some (vI (0)), some (vI (0))]) r_12_isOffered_3 rfl rfl ?_
  have L4 : ∀ (nF : Nat) (i v : Int), (hi : 0 ≤ i ∧ i ≤ (gA G 243 0 ((gA G 205 0 (p))))) → (hv : (v = 1 ∧ (∃ j, 0 ≤ j ∧ j < i ∧ (gA G 242 0 (7 * (gA G 205 0 (p)) + j)) = p)) ∨ (v = 0 ∧ ¬ (∃ j, 0 ≤ j ∧ j < i ∧ (gA G 242 0 (7 * (gA G 205 0 (p)) + j)) = p))) → ((gA G 243 0 ((gA G 205 0 (p)))) - i).toNat < nF → PW l w M_X12_isOffered (d + 0) 4 [some (vR 12 (0)), some (vI (p)), some (vI (v)), some (vI (i))] [] G P := by
    intro nF
    induction nF with
    | zero => intro _ _ _ _ hM; exact absurd hM (Nat.not_lt_zero _)
    | succ nF ih4 =>
      intro i v hi hv hM4
      refine pw_iload r_12_isOffered_4 rfl ?_
      refine pw_aload r_12_isOffered_5 rfl ?_
      refine pw_getR r_12_isOffered_6 fs_12_61 (by decide) ?_
      refine pw_aload r_12_isOffered_9 rfl ?_
      refine pw_getR r_12_isOffered_10 fs_12_7 (by decide) ?_
      refine pw_iload r_12_isOffered_13 rfl ?_
      refine pw_iald r_12_isOffered_14 sh205 (by omega) (by omega) ?_
      refine pw_iald r_12_isOffered_15 sh243 (by omega) (by omega) ?_
      refine pw_icmp_ge r_12_isOffered_16 (fun h16 => ?_) (fun h16 => ?_)
      · skip
        refine pw_iload r_12_isOffered_55 rfl ?_
        refine pw_zret r_12_isOffered_56 rfl (by omega) (Nat.le_refl _) ⟨rfl, ?_⟩
        rw [show i = (gA G 243 0 ((gA G 205 0 (p)))) by omega] at hv
        rcases hv with ⟨y, z⟩ | ⟨y, z⟩
        · exact pe hP (y.trans (b2i_t z).symm)
        · exact pe hP (y.trans (b2i_f z).symm)
      · skip
        refine pw_iload r_12_isOffered_19 rfl ?_
        refine pw_if_ne r_12_isOffered_20 (fun h20 => ?_) (fun h20 => ?_)
        · skip
          refine pw_const r_12_isOffered_43 ?_
          refine pw_goto r_12_isOffered_44 ?_
          refine pw_istore (ls' := [some (vR 12 (0)), some (vI (p)), some (vI (1)), some (vI (i))]) r_12_isOffered_48 rfl rfl ?_
          refine pw_iinc (b := 0) (ls' := [some (vR 12 (0)), some (vI (p)), some (vI (1)), some (vI ((i + 1)))]) r_12_isOffered_49 rfl rfl (by omega) rfl ?_
          refine pw_goto r_12_isOffered_52 ?_
          exact ih4 ((i + 1)) (1) (by first | assumption | omega) (by first | (left; refine ⟨rfl, ?_⟩; rcases hv with ⟨y, j, a, b, c⟩ | ⟨y, z⟩; exact ⟨j, a, by omega, c⟩; omega) | (left; exact ⟨rfl, i, hi.1, by omega, by omega⟩) | (right; refine ⟨rfl, ?_⟩; rintro ⟨j, a, b, c⟩; rcases hv with ⟨y, z⟩ | ⟨y, z⟩; omega; rcases (show j < i ∨ j = i by omega) with q | q; exact z ⟨j, a, q, c⟩; rw [q] at c; omega)) (by omega)
        · skip
          refine pw_aload r_12_isOffered_23 rfl ?_
          refine pw_getR r_12_isOffered_24 fs_12_60 (by decide) ?_
          refine pw_const r_12_isOffered_27 ?_
          refine pw_aload r_12_isOffered_29 rfl ?_
          refine pw_getR r_12_isOffered_30 fs_12_7 (by decide) ?_
          refine pw_iload r_12_isOffered_33 rfl ?_
          refine pw_iald r_12_isOffered_34 sh205 (by omega) (by omega) ?_
          refine pw_imul r_12_isOffered_35 (by omega) ?_
          refine pw_iload r_12_isOffered_36 rfl ?_
          refine pw_iadd r_12_isOffered_37 (by omega) ?_
          refine pw_iald r_12_isOffered_38 sh242 (by omega) (by omega) ?_
          refine pw_iload r_12_isOffered_39 rfl ?_
          refine pw_icmp_ne r_12_isOffered_40 (fun h40 => ?_) (fun h40 => ?_)
          · skip
            refine pw_const r_12_isOffered_47 ?_
            refine pw_istore (ls' := [some (vR 12 (0)), some (vI (p)), some (vI (0)), some (vI (i))]) r_12_isOffered_48 rfl rfl ?_
            refine pw_iinc (b := 0) (ls' := [some (vR 12 (0)), some (vI (p)), some (vI (0)), some (vI ((i + 1)))]) r_12_isOffered_49 rfl rfl (by omega) rfl ?_
            refine pw_goto r_12_isOffered_52 ?_
            exact ih4 ((i + 1)) (0) (by first | assumption | omega) (by first | (left; refine ⟨rfl, ?_⟩; rcases hv with ⟨y, j, a, b, c⟩ | ⟨y, z⟩; exact ⟨j, a, by omega, c⟩; omega) | (left; exact ⟨rfl, i, hi.1, by omega, by omega⟩) | (right; refine ⟨rfl, ?_⟩; rintro ⟨j, a, b, c⟩; rcases hv with ⟨y, z⟩ | ⟨y, z⟩; omega; rcases (show j < i ∨ j = i by omega) with q | q; exact z ⟨j, a, q, c⟩; rw [q] at c; omega)) (by omega)
          · skip
            refine pw_const r_12_isOffered_43 ?_
            refine pw_goto r_12_isOffered_44 ?_
            refine pw_istore (ls' := [some (vR 12 (0)), some (vI (p)), some (vI (1)), some (vI (i))]) r_12_isOffered_48 rfl rfl ?_
            refine pw_iinc (b := 0) (ls' := [some (vR 12 (0)), some (vI (p)), some (vI (1)), some (vI ((i + 1)))]) r_12_isOffered_49 rfl rfl (by omega) rfl ?_
            refine pw_goto r_12_isOffered_52 ?_
            exact ih4 ((i + 1)) (1) (by first | assumption | omega) (by first | (left; refine ⟨rfl, ?_⟩; rcases hv with ⟨y, j, a, b, c⟩ | ⟨y, z⟩; exact ⟨j, a, by omega, c⟩; omega) | (left; exact ⟨rfl, i, hi.1, by omega, by omega⟩) | (right; refine ⟨rfl, ?_⟩; rintro ⟨j, a, b, c⟩; rcases hv with ⟨y, z⟩ | ⟨y, z⟩; omega; rcases (show j < i ∨ j = i by omega) with q | q; exact z ⟨j, a, q, c⟩; rw [q] at c; omega)) (by omega)
  exact L4 _ (0) (0) (by first | assumption | omega) (Or.inr ⟨rfl, fun ⟨j, a, b, c⟩ => by omega⟩) (Nat.lt_succ_self _)
set_option maxRecDepth 10000 in
theorem sp_X12_partsChild {l : Launch} {w : Wo} {d : Nat} {G : PH} {P : Option PV → PH → Prop} {go : Int → Prop} (hsz : 0 ≤ (gF G 12 0 17) ∧ (gF G 12 0 17) ≤ 150) (hof : ∀ s, 0 ≤ s → s < 2 → 0 ≤ (gA G 243 0 (s)) ∧ (gA G 243 0 (s)) ≤ 7) (hlv : ∀ s i, 0 ≤ s → s < 2 → 0 ≤ i → i < (gA G 243 0 (s)) → 0 ≤ (gA G 242 0 (7 * s + i)) ∧ (gA G 242 0 (7 * s + i)) < (gF G 12 0 17)) (hwi : ∀ x, 0 ≤ x → x < (gF G 12 0 17) → (gA G 209 0 (x)) = -1 ∨ (0 ≤ (gA G 209 0 (x)) ∧ (gA G 209 0 (x)) < (gF G 12 0 17))) (hsA : ∀ i, 0 ≤ i → i < (gF G 12 0 17) → 0 ≤ (gA G 205 0 (i)) ∧ (gA G 205 0 (i)) ≤ 1) (hgo : ∀ x, 0 ≤ x → x < (gF G 12 0 17) → (gA G 247 0 (x)) = b2i (go x)) (hP : P (some (vI (b2i (pcM G go)))) G) : PW l w M_X12_partsChild (d + 1) 0 [some (vR 12 (0)), none, none, none, none] [] G P := by
  refine pw_const r_12_partsChild_0 ?_
  refine pw_istore (ls' := [some (vR 12 (0)), some (vI (0)), none, none, none]) r_12_partsChild_1 rfl rfl ?_
  refine pw_const r_12_partsChild_2 ?_
  refine pw_istore (ls' := [some (vR 12 (0)), some (vI (0)), some (vI (0)), none, none]) r_12_partsChild_3 rfl rfl ?_
  have L4 : ∀ (nF : Nat) (s v : Int), (hs : 0 ≤ s ∧ s ≤ 2) → (hv : (v = 1 ∧ (∃ s1 i1, 0 ≤ s1 ∧ 0 ≤ i1 ∧ (s1 < s ∧ i1 < (gA G 243 0 (s1))) ∧ pcQ G go (gA G 242 0 (7 * s1 + i1)))) ∨ (v = 0 ∧ ¬ (∃ s1 i1, 0 ≤ s1 ∧ 0 ≤ i1 ∧ (s1 < s ∧ i1 < (gA G 243 0 (s1))) ∧ pcQ G go (gA G 242 0 (7 * s1 + i1))))) → (2 - s).toNat < nF → PW l w M_X12_partsChild (d + 1) 4 [some (vR 12 (0)), some (vI (v)), some (vI (s)), none, none] [] G P := by
    intro nF
    induction nF with
    | zero => intro _ _ _ _ hM; exact absurd hM (Nat.not_lt_zero _)
    | succ nF ih4 =>
      intro s v hs hv hM4
      refine pw_iload r_12_partsChild_4 rfl ?_
      refine pw_const r_12_partsChild_5 ?_
      refine pw_icmp_ge r_12_partsChild_6 (fun h06 => ?_) (fun h06 => ?_)
      · skip
        refine pw_iload r_12_partsChild_114 rfl ?_
        refine pw_zret r_12_partsChild_115 rfl (by omega) (Nat.le_refl _) ⟨rfl, ?_⟩
        rw [show s = 2 by omega] at hv
        rcases hv with ⟨y, z⟩ | ⟨y, z⟩
        · obtain ⟨s1, i1, a, b, c, e⟩ := z
          exact pe hP (y.trans (b2i_t ⟨s1, i1, a, c.1, b, c.2, e⟩).symm)
        · exact pe hP (y.trans (b2i_f (fun ⟨s1, i1, a, b, c, f, e⟩ => z ⟨s1, i1, a, c, ⟨b, f⟩, e⟩)).symm)
      · skip
        have hn6 := hof s hs.1 (by omega)
        refine pw_const r_12_partsChild_9 ?_
        refine pw_istore (ls' := [some (vR 12 (0)), some (vI (v)), some (vI (s)), some (vI (0)), none]) r_12_partsChild_10 rfl rfl ?_
        have L11 : ∀ (nF : Nat) (i wv : Int), (hi : 0 ≤ i ∧ i ≤ (gA G 243 0 (s))) → (hw : (wv = 1 ∧ (∃ s1 i1, 0 ≤ s1 ∧ 0 ≤ i1 ∧ ((s1 < s ∧ i1 < (gA G 243 0 (s1))) ∨ (s1 = s ∧ i1 < i)) ∧ pcQ G go (gA G 242 0 (7 * s1 + i1)))) ∨ (wv = 0 ∧ ¬ (∃ s1 i1, 0 ≤ s1 ∧ 0 ≤ i1 ∧ ((s1 < s ∧ i1 < (gA G 243 0 (s1))) ∨ (s1 = s ∧ i1 < i)) ∧ pcQ G go (gA G 242 0 (7 * s1 + i1))))) → ((gA G 243 0 (s)) - i).toNat < nF → PW l w M_X12_partsChild (d + 1) 11 [some (vR 12 (0)), some (vI (wv)), some (vI (s)), some (vI (i)), none] [] G P := by
          intro nF
          induction nF with
          | zero => intro _ _ _ _ hM; exact absurd hM (Nat.not_lt_zero _)
          | succ nF ih11 =>
            intro i wv hi hw hM11
            have hn7 := hof s hs.1 (by omega)
            refine pw_iload r_12_partsChild_11 rfl ?_
            refine pw_aload r_12_partsChild_12 rfl ?_
            refine pw_getR r_12_partsChild_13 fs_12_61 (by decide) ?_
            refine pw_iload r_12_partsChild_16 rfl ?_
            refine pw_iald r_12_partsChild_17 sh243 (by omega) (by omega) ?_
            refine pw_icmp_ge r_12_partsChild_18 (fun h18 => ?_) (fun h18 => ?_)
            · skip
              refine pw_iinc (b := 0) (ls' := [some (vR 12 (0)), some (vI (wv)), some (vI ((s + 1))), some (vI (i)), none]) r_12_partsChild_108 rfl rfl (by omega) rfl ?_
              refine pw_goto r_12_partsChild_111 ?_
              refine pw_weakL (ls' := [some (vR 12 (0)), some (vI (wv)), some (vI ((s + 1))), none, none]) (⟨rfl, ⟨rfl, ⟨rfl, trivial⟩⟩⟩) ?_
              exact ih4 ((s + 1)) (wv) (by first | assumption | omega) (by clear hv; rcases hw with ⟨y, s1, i1, a, b, c, e⟩ | ⟨y, z⟩; left; refine ⟨y, s1, i1, a, b, ?_, e⟩; rcases c with c | ⟨c1, c2⟩; exact ⟨Int.lt_of_lt_of_le c.1 (Int.le_of_lt (Int.lt_succ s)), c.2⟩; subst c1; exact ⟨Int.lt_succ _, Int.lt_of_lt_of_le c2 hi.2⟩; right; refine ⟨y, ?_⟩; rintro ⟨s1, i1, a, b, c, e⟩; refine z ⟨s1, i1, a, b, ?_, e⟩; rcases Int.lt_or_eq_of_le (Int.le_of_lt_add_one c.1) with q | q; exact Or.inl ⟨q, c.2⟩; subst q; exact Or.inr ⟨rfl, Int.lt_of_lt_of_le c.2 h18⟩) (by clear hv hw; omega)
            · skip
              have hpl := hlv s i hs.1 (by omega) hi.1 (by omega)
              have hwp := hwi (gA G 242 0 (7 * s + i)) hpl.1 hpl.2
              refine pw_aload r_12_partsChild_21 rfl ?_
              refine pw_getR r_12_partsChild_22 fs_12_60 (by decide) ?_
              refine pw_const r_12_partsChild_25 ?_
              refine pw_iload r_12_partsChild_27 rfl ?_
              refine pw_imul r_12_partsChild_28 (by omega) ?_
              refine pw_iload r_12_partsChild_29 rfl ?_
              refine pw_iadd r_12_partsChild_30 (by omega) ?_
              refine pw_iald r_12_partsChild_31 sh242 (by omega) (by omega) ?_
              refine pw_istore (ls' := [some (vR 12 (0)), some (vI (wv)), some (vI (s)), some (vI (i)), some (vI (gA G 242 (0) (((7 * s) + i))))]) r_12_partsChild_32 rfl rfl ?_
              refine pw_iload r_12_partsChild_34 rfl ?_
              refine pw_if_ne r_12_partsChild_35 (fun h35 => ?_) (fun h35 => ?_)
              · skip
                refine pw_const r_12_partsChild_96 ?_
                refine pw_goto r_12_partsChild_97 ?_
                refine pw_istore (ls' := [some (vR 12 (0)), some (vI (1)), some (vI (s)), some (vI (i)), some (vI (gA G 242 (0) (((7 * s) + i))))]) r_12_partsChild_101 rfl rfl ?_
                refine pw_iinc (b := 0) (ls' := [some (vR 12 (0)), some (vI (1)), some (vI (s)), some (vI ((i + 1))), some (vI (gA G 242 (0) (((7 * s) + i))))]) r_12_partsChild_102 rfl rfl (by omega) rfl ?_
                refine pw_goto r_12_partsChild_105 ?_
                refine pw_weakL (ls' := [some (vR 12 (0)), some (vI (1)), some (vI (s)), some (vI ((i + 1))), none]) (⟨rfl, ⟨rfl, ⟨rfl, ⟨rfl, trivial⟩⟩⟩⟩) ?_
                exact ih11 ((i + 1)) (1) (by first | assumption | omega) (by first | (left; refine ⟨rfl, ?_⟩; rcases hw with ⟨y, s1, i1, a, b, c, e⟩ | ⟨y, z⟩; exact ⟨s1, i1, a, b, by omega, e⟩; omega) | (left; exact ⟨rfl, s, i, hs.1, hi.1, by omega, by omega, by omega, h71, fun z => h93 (by rw [gq1, gq2, propext z])⟩) | (right; refine ⟨rfl, ?_⟩; rintro ⟨s1, i1, a, b, c, e⟩; rcases hw with ⟨y, z⟩ | ⟨y, z⟩; omega; by_cases q : s1 = s ∧ i1 = i; rw [q.1, q.2] at e; (first | (have e1 := e.1; have e2 := e.2.1; omega) | exact h71 e.2.2.1 | exact e.2.2.2 (b2i_inj (by rw [← gq1, ← gq2]; exact h93))); exact z ⟨s1, i1, a, b, by omega, e⟩)) (by omega)
              · skip
                refine pw_aload r_12_partsChild_38 rfl ?_
                refine pw_getR r_12_partsChild_39 fs_12_6 (by decide) ?_
                refine pw_iload r_12_partsChild_42 rfl ?_
                refine pw_iald r_12_partsChild_44 sh204 (by omega) (by omega) ?_
                refine pw_const r_12_partsChild_45 ?_
                refine pw_icmp_ne r_12_partsChild_47 (fun h47 => ?_) (fun h47 => ?_)
                · skip
                  refine pw_const r_12_partsChild_100 ?_
                  refine pw_istore (ls' := [some (vR 12 (0)), some (vI (0)), some (vI (s)), some (vI (i)), some (vI (gA G 242 (0) (((7 * s) + i))))]) r_12_partsChild_101 rfl rfl ?_
                  refine pw_iinc (b := 0) (ls' := [some (vR 12 (0)), some (vI (0)), some (vI (s)), some (vI ((i + 1))), some (vI (gA G 242 (0) (((7 * s) + i))))]) r_12_partsChild_102 rfl rfl (by omega) rfl ?_
                  refine pw_goto r_12_partsChild_105 ?_
                  refine pw_weakL (ls' := [some (vR 12 (0)), some (vI (0)), some (vI (s)), some (vI ((i + 1))), none]) (⟨rfl, ⟨rfl, ⟨rfl, ⟨rfl, trivial⟩⟩⟩⟩) ?_
                  exact ih11 ((i + 1)) (0) (by first | assumption | omega) (by first | (left; refine ⟨rfl, ?_⟩; rcases hw with ⟨y, s1, i1, a, b, c, e⟩ | ⟨y, z⟩; exact ⟨s1, i1, a, b, by omega, e⟩; omega) | (left; exact ⟨rfl, s, i, hs.1, hi.1, by omega, by omega, by omega, h71, fun z => h93 (by rw [gq1, gq2, propext z])⟩) | (right; refine ⟨rfl, ?_⟩; rintro ⟨s1, i1, a, b, c, e⟩; rcases hw with ⟨y, z⟩ | ⟨y, z⟩; omega; by_cases q : s1 = s ∧ i1 = i; rw [q.1, q.2] at e; (first | (have e1 := e.1; have e2 := e.2.1; omega) | exact h71 e.2.2.1 | exact e.2.2.2 (b2i_inj (by rw [← gq1, ← gq2]; exact h93))); exact z ⟨s1, i1, a, b, by omega, e⟩)) (by omega)
                · skip
                  refine pw_aload r_12_partsChild_50 rfl ?_
                  refine pw_getR r_12_partsChild_51 fs_12_11 (by decide) ?_
                  refine pw_iload r_12_partsChild_54 rfl ?_
                  refine pw_iald r_12_partsChild_56 sh209 (by omega) (by omega) ?_
                  refine pw_if_lt r_12_partsChild_57 (fun h57 => ?_) (fun h57 => ?_)
                  · skip
                    refine pw_const r_12_partsChild_100 ?_
                    refine pw_istore (ls' := [some (vR 12 (0)), some (vI (0)), some (vI (s)), some (vI (i)), some (vI (gA G 242 (0) (((7 * s) + i))))]) r_12_partsChild_101 rfl rfl ?_
                    refine pw_iinc (b := 0) (ls' := [some (vR 12 (0)), some (vI (0)), some (vI (s)), some (vI ((i + 1))), some (vI (gA G 242 (0) (((7 * s) + i))))]) r_12_partsChild_102 rfl rfl (by omega) rfl ?_
                    refine pw_goto r_12_partsChild_105 ?_
                    refine pw_weakL (ls' := [some (vR 12 (0)), some (vI (0)), some (vI (s)), some (vI ((i + 1))), none]) (⟨rfl, ⟨rfl, ⟨rfl, ⟨rfl, trivial⟩⟩⟩⟩) ?_
                    exact ih11 ((i + 1)) (0) (by first | assumption | omega) (by first | (left; refine ⟨rfl, ?_⟩; rcases hw with ⟨y, s1, i1, a, b, c, e⟩ | ⟨y, z⟩; exact ⟨s1, i1, a, b, by omega, e⟩; omega) | (left; exact ⟨rfl, s, i, hs.1, hi.1, by omega, by omega, by omega, h71, fun z => h93 (by rw [gq1, gq2, propext z])⟩) | (right; refine ⟨rfl, ?_⟩; rintro ⟨s1, i1, a, b, c, e⟩; rcases hw with ⟨y, z⟩ | ⟨y, z⟩; omega; by_cases q : s1 = s ∧ i1 = i; rw [q.1, q.2] at e; (first | (have e1 := e.1; have e2 := e.2.1; omega) | exact h71 e.2.2.1 | exact e.2.2.2 (b2i_inj (by rw [← gq1, ← gq2]; exact h93))); exact z ⟨s1, i1, a, b, by omega, e⟩)) (by omega)
                  · skip
                    have hwv : 0 ≤ (gA G 209 0 ((gA G 242 0 (7 * s + i)))) ∧ (gA G 209 0 ((gA G 242 0 (7 * s + i)))) < (gF G 12 0 17) := by omega
                    have hhw := hsA (gA G 209 0 ((gA G 242 0 (7 * s + i)))) hwv.1 hwv.2
                    have hhn := hof (gA G 205 0 ((gA G 209 0 ((gA G 242 0 (7 * s + i)))))) hhw.1 (by omega)
                    have gq1 := hgo (gA G 242 0 (7 * s + i)) hpl.1 hpl.2
                    have gq2 := hgo (gA G 209 0 ((gA G 242 0 (7 * s + i)))) hwv.1 hwv.2
                    refine pw_aload r_12_partsChild_60 rfl ?_
                    refine pw_aload r_12_partsChild_61 rfl ?_
                    refine pw_getR r_12_partsChild_62 fs_12_11 (by decide) ?_
                    refine pw_iload r_12_partsChild_65 rfl ?_
                    refine pw_iald r_12_partsChild_67 sh209 (by omega) (by omega) ?_
                    refine pw_callV (av := [vI (gA G 209 (0) (gA G 242 (0) (((7 * s) + i))))]) (st := []) (ls0 := [some (vR 12 (0)), some (vI (gA G 209 (0) (gA G 242 (0) (((7 * s) + i))))), none, none]) r_12_partsChild_68 rfl rfl rfl (Nat.le_refl _) ?_
                    refine sp_X12_isOffered (by omega) (hhw) (hhn) ?_
                    refine pw_top (b := b2i (ofM G (gA G 209 0 ((gA G 242 0 (7 * s + i)))))) (b2i_iff (Iff.rfl)) ?_
                    refine pw_if_eqB r_12_partsChild_71 (fun h71 => ?_) (fun h71 => ?_)
                    · skip
                      refine pw_const r_12_partsChild_100 ?_
                      refine pw_istore (ls' := [some (vR 12 (0)), some (vI (0)), some (vI (s)), some (vI (i)), some (vI (gA G 242 (0) (((7 * s) + i))))]) r_12_partsChild_101 rfl rfl ?_
                      refine pw_iinc (b := 0) (ls' := [some (vR 12 (0)), some (vI (0)), some (vI (s)), some (vI ((i + 1))), some (vI (gA G 242 (0) (((7 * s) + i))))]) r_12_partsChild_102 rfl rfl (by omega) rfl ?_
                      refine pw_goto r_12_partsChild_105 ?_
                      refine pw_weakL (ls' := [some (vR 12 (0)), some (vI (0)), some (vI (s)), some (vI ((i + 1))), none]) (⟨rfl, ⟨rfl, ⟨rfl, ⟨rfl, trivial⟩⟩⟩⟩) ?_
                      exact ih11 ((i + 1)) (0) (by first | assumption | omega) (by first | (left; refine ⟨rfl, ?_⟩; rcases hw with ⟨y, s1, i1, a, b, c, e⟩ | ⟨y, z⟩; exact ⟨s1, i1, a, b, by omega, e⟩; omega) | (left; exact ⟨rfl, s, i, hs.1, hi.1, by omega, by omega, by omega, h71, fun z => h93 (by rw [gq1, gq2, propext z])⟩) | (right; refine ⟨rfl, ?_⟩; rintro ⟨s1, i1, a, b, c, e⟩; rcases hw with ⟨y, z⟩ | ⟨y, z⟩; omega; by_cases q : s1 = s ∧ i1 = i; rw [q.1, q.2] at e; (first | (have e1 := e.1; have e2 := e.2.1; omega) | exact h71 e.2.2.1 | exact e.2.2.2 (b2i_inj (by rw [← gq1, ← gq2]; exact h93))); exact z ⟨s1, i1, a, b, by omega, e⟩)) (by omega)
                    · skip
                      refine pw_aload r_12_partsChild_74 rfl ?_
                      refine pw_getR r_12_partsChild_75 fs_12_67 (by decide) ?_
                      refine pw_iload r_12_partsChild_78 rfl ?_
                      refine pw_zald r_12_partsChild_80 sh247 (by omega) (by omega) ?_
                      refine pw_aload r_12_partsChild_81 rfl ?_
                      refine pw_getR r_12_partsChild_82 fs_12_67 (by decide) ?_
                      refine pw_aload r_12_partsChild_85 rfl ?_
                      refine pw_getR r_12_partsChild_86 fs_12_11 (by decide) ?_
                      refine pw_iload r_12_partsChild_89 rfl ?_
                      refine pw_iald r_12_partsChild_91 sh209 (by omega) (by omega) ?_
                      refine pw_zald r_12_partsChild_92 sh247 (by omega) (by omega) ?_
                      refine pw_icmp_eq r_12_partsChild_93 (fun h93 => ?_) (fun h93 => ?_)
                      · skip
                        refine pw_const r_12_partsChild_100 ?_
                        refine pw_istore (ls' := [some (vR 12 (0)), some (vI (0)), some (vI (s)), some (vI (i)), some (vI (gA G 242 (0) (((7 * s) + i))))]) r_12_partsChild_101 rfl rfl ?_
                        refine pw_iinc (b := 0) (ls' := [some (vR 12 (0)), some (vI (0)), some (vI (s)), some (vI ((i + 1))), some (vI (gA G 242 (0) (((7 * s) + i))))]) r_12_partsChild_102 rfl rfl (by omega) rfl ?_
                        refine pw_goto r_12_partsChild_105 ?_
                        refine pw_weakL (ls' := [some (vR 12 (0)), some (vI (0)), some (vI (s)), some (vI ((i + 1))), none]) (⟨rfl, ⟨rfl, ⟨rfl, ⟨rfl, trivial⟩⟩⟩⟩) ?_
                        exact ih11 ((i + 1)) (0) (by first | assumption | omega) (by first | (left; refine ⟨rfl, ?_⟩; rcases hw with ⟨y, s1, i1, a, b, c, e⟩ | ⟨y, z⟩; exact ⟨s1, i1, a, b, by omega, e⟩; omega) | (left; exact ⟨rfl, s, i, hs.1, hi.1, by omega, by omega, by omega, h71, fun z => h93 (by rw [gq1, gq2, propext z])⟩) | (right; refine ⟨rfl, ?_⟩; rintro ⟨s1, i1, a, b, c, e⟩; rcases hw with ⟨y, z⟩ | ⟨y, z⟩; omega; by_cases q : s1 = s ∧ i1 = i; rw [q.1, q.2] at e; (first | (have e1 := e.1; have e2 := e.2.1; omega) | exact h71 e.2.2.1 | exact e.2.2.2 (b2i_inj (by rw [← gq1, ← gq2]; exact h93))); exact z ⟨s1, i1, a, b, by omega, e⟩)) (by omega)
                      · skip
                        refine pw_const r_12_partsChild_96 ?_
                        refine pw_goto r_12_partsChild_97 ?_
                        refine pw_istore (ls' := [some (vR 12 (0)), some (vI (1)), some (vI (s)), some (vI (i)), some (vI (gA G 242 (0) (((7 * s) + i))))]) r_12_partsChild_101 rfl rfl ?_
                        refine pw_iinc (b := 0) (ls' := [some (vR 12 (0)), some (vI (1)), some (vI (s)), some (vI ((i + 1))), some (vI (gA G 242 (0) (((7 * s) + i))))]) r_12_partsChild_102 rfl rfl (by omega) rfl ?_
                        refine pw_goto r_12_partsChild_105 ?_
                        refine pw_weakL (ls' := [some (vR 12 (0)), some (vI (1)), some (vI (s)), some (vI ((i + 1))), none]) (⟨rfl, ⟨rfl, ⟨rfl, ⟨rfl, trivial⟩⟩⟩⟩) ?_
                        exact ih11 ((i + 1)) (1) (by first | assumption | omega) (by first | (left; refine ⟨rfl, ?_⟩; rcases hw with ⟨y, s1, i1, a, b, c, e⟩ | ⟨y, z⟩; exact ⟨s1, i1, a, b, by omega, e⟩; omega) | (left; exact ⟨rfl, s, i, hs.1, hi.1, by omega, by omega, by omega, h71, fun z => h93 (by rw [gq1, gq2, propext z])⟩) | (right; refine ⟨rfl, ?_⟩; rintro ⟨s1, i1, a, b, c, e⟩; rcases hw with ⟨y, z⟩ | ⟨y, z⟩; omega; by_cases q : s1 = s ∧ i1 = i; rw [q.1, q.2] at e; (first | (have e1 := e.1; have e2 := e.2.1; omega) | exact h71 e.2.2.1 | exact e.2.2.2 (b2i_inj (by rw [← gq1, ← gq2]; exact h93))); exact z ⟨s1, i1, a, b, by omega, e⟩)) (by omega)
        exact L11 _ (0) (v) (by first | assumption | omega) (by rcases hv with ⟨y, s1, i1, a, b, c, e⟩ | ⟨y, z⟩; exact Or.inl ⟨y, s1, i1, a, b, Or.inl c, e⟩; exact Or.inr ⟨y, fun ⟨s1, i1, a, b, c, e⟩ => z ⟨s1, i1, a, b, by omega, e⟩⟩) (Nat.lt_succ_self _)
  exact L4 _ (0) (0) (by first | assumption | omega) (Or.inr ⟨rfl, fun ⟨s1, i1, a, b, c, e⟩ => by omega⟩) (Nat.lt_succ_self _)
set_option maxRecDepth 10000 in
theorem sp_X12_lacksDoctor {l : Launch} {w : Wo} {d : Nat} {G : PH} {P : Option PV → PH → Prop} {go : Int → Prop} (hsz : 0 ≤ (gF G 12 0 17) ∧ (gF G 12 0 17) ≤ 150) (hc : 0 ≤ (gF G 12 0 3) ∧ (gF G 12 0 3) ≤ 16) (hr : 1 ≤ (gF G 12 0 62) ∧ (gF G 12 0 62) ≤ 99) (hgo : ∀ x, 0 ≤ x → x < (gF G 12 0 17) → (gA G 247 0 (x)) = b2i (go x)) (hP : P (some (vI (b2i (ldM G go)))) G) : PW l w M_X12_lacksDoctor (d + 0) 0 [some (vR 12 (0)), none, none, none, none, none, none] [] G P := by
  refine pw_const r_12_lacksDoctor_0 ?_
  refine pw_istore (ls' := [some (vR 12 (0)), some (vI (0)), none, none, none, none, none]) r_12_lacksDoctor_1 rfl rfl ?_
  refine pw_const r_12_lacksDoctor_2 ?_
  refine pw_istore (ls' := [some (vR 12 (0)), some (vI (0)), some (vI (0)), none, none, none, none]) r_12_lacksDoctor_3 rfl rfl ?_
  have L4 : ∀ (nF : Nat) (c v : Int), (hcc : 0 ≤ c ∧ c ≤ (gF G 12 0 3)) → (hv : (v = 1 ∧ (∃ x, 0 ≤ x ∧ x < c ∧ leftM G go x < min (pDiv (sickM G go x + (gF G 12 0 62) - 1) (gF G 12 0 62)) (hadM G x))) ∨ (v = 0 ∧ ¬ (∃ x, 0 ≤ x ∧ x < c ∧ leftM G go x < min (pDiv (sickM G go x + (gF G 12 0 62) - 1) (gF G 12 0 62)) (hadM G x)))) → ((gF G 12 0 3) - c).toNat < nF → PW l w M_X12_lacksDoctor (d + 0) 4 [some (vR 12 (0)), some (vI (v)), some (vI (c)), none, none, none, none] [] G P := by
    intro nF
    induction nF with
    | zero => intro _ _ _ _ hM; exact absurd hM (Nat.not_lt_zero _)
    | succ nF ih4 =>
      intro c v hcc hv hM4
      refine pw_iload r_12_lacksDoctor_4 rfl ?_
      refine pw_aload r_12_lacksDoctor_5 rfl ?_
      refine pw_getI r_12_lacksDoctor_6 fs_12_3 (by decide) ?_
      refine pw_icmp_ge r_12_lacksDoctor_9 (fun h09 => ?_) (fun h09 => ?_)
      · skip
        refine pw_iload r_12_lacksDoctor_189 rfl ?_
        refine pw_zret r_12_lacksDoctor_190 rfl (by omega) (Nat.le_refl _) ⟨rfl, ?_⟩
        rw [show c = (gF G 12 0 3) by omega] at hv
        rcases hv with ⟨y, z⟩ | ⟨y, z⟩
        · exact pe hP (y.trans (b2i_t z).symm)
        · exact pe hP (y.trans (b2i_f z).symm)
      · skip
        refine pw_const r_12_lacksDoctor_12 ?_
        refine pw_istore (ls' := [some (vR 12 (0)), some (vI (v)), some (vI (c)), some (vI (0)), none, none, none]) r_12_lacksDoctor_13 rfl rfl ?_
        refine pw_const r_12_lacksDoctor_14 ?_
        refine pw_istore (ls' := [some (vR 12 (0)), some (vI (v)), some (vI (c)), some (vI (0)), some (vI (0)), none, none]) r_12_lacksDoctor_15 rfl rfl ?_
        refine pw_const r_12_lacksDoctor_17 ?_
        refine pw_istore (ls' := [some (vR 12 (0)), some (vI (v)), some (vI (c)), some (vI (0)), some (vI (0)), some (vI (0)), none]) r_12_lacksDoctor_18 rfl rfl ?_
        refine pw_const r_12_lacksDoctor_20 ?_
        refine pw_istore (ls' := [some (vR 12 (0)), some (vI (v)), some (vI (c)), some (vI (0)), some (vI (0)), some (vI (0)), some (vI (0))]) r_12_lacksDoctor_21 rfl rfl ?_
        have L23 : ∀ (nF : Nat) (i s3 s4 s5 : Int), (hi : 0 ≤ i ∧ i ≤ (gF G 12 0 17)) → (hk : s3 = cnt (fun p => ((gA G 206 0 (p)) = 0 ∧ (gA G 207 0 (p)) = c) ∧ 0 < (gA G 210 0 (p)) ∧ ¬ go p) i) → (hd : s4 = cnt (fun p => ((gA G 206 0 (p)) = 0 ∧ (gA G 207 0 (p)) = c) ∧ (gA G 204 0 (p)) = 3) i) → (hl : s5 = cnt (fun p => ((gA G 206 0 (p)) = 0 ∧ (gA G 207 0 (p)) = c) ∧ (gA G 204 0 (p)) = 3 ∧ ¬ go p) i) → ((gF G 12 0 17) - i).toNat < nF → PW l w M_X12_lacksDoctor (d + 0) 23 [some (vR 12 (0)), some (vI (v)), some (vI (c)), some (vI (s3)), some (vI (s4)), some (vI (s5)), some (vI (i))] [] G P := by
          intro nF
          induction nF with
          | zero => intro _ _ _ _ _ _ _ _ hM; exact absurd hM (Nat.not_lt_zero _)
          | succ nF ih23 =>
            intro i s3 s4 s5 hi hk hd hl hM23
            have hc1 := cnt_le (fun p => ((gA G 206 0 (p)) = 0 ∧ (gA G 207 0 (p)) = c) ∧ 0 < (gA G 210 0 (p)) ∧ ¬ go p) hi.1
            have hc2 := cnt_le (fun p => ((gA G 206 0 (p)) = 0 ∧ (gA G 207 0 (p)) = c) ∧ (gA G 204 0 (p)) = 3) hi.1
            have hc3 := cnt_le (fun p => ((gA G 206 0 (p)) = 0 ∧ (gA G 207 0 (p)) = c) ∧ (gA G 204 0 (p)) = 3 ∧ ¬ go p) hi.1
            refine pw_iload r_12_lacksDoctor_23 rfl ?_
            refine pw_aload r_12_lacksDoctor_25 rfl ?_
            refine pw_getI r_12_lacksDoctor_26 fs_12_17 (by decide) ?_
            refine pw_icmp_ge r_12_lacksDoctor_29 (fun h29 => ?_) (fun h29 => ?_)
            · skip
              refine pw_iload r_12_lacksDoctor_139 rfl ?_
              refine pw_aload r_12_lacksDoctor_140 rfl ?_
              refine pw_getI r_12_lacksDoctor_141 fs_12_62 (by decide) ?_
              refine pw_iadd r_12_lacksDoctor_144 (by omega) ?_
              refine pw_const r_12_lacksDoctor_145 ?_
              refine pw_isub r_12_lacksDoctor_146 (by omega) ?_
              refine pw_aload r_12_lacksDoctor_147 rfl ?_
              refine pw_getI r_12_lacksDoctor_148 fs_12_62 (by decide) ?_
              refine pw_idiv r_12_lacksDoctor_151 (by omega) ?_
              refine pw_istore (ls' := [some (vR 12 (0)), some (vI (v)), some (vI (c)), some (vI (s3)), some (vI (s4)), some (vI (s5)), some (vI (pDiv (((s3 + (gF G 12 (0) 62)) - 1)) (gF G 12 (0) 62)))]) r_12_lacksDoctor_152 rfl rfl ?_
              refine pw_iload r_12_lacksDoctor_154 rfl ?_
              refine pw_if_ne r_12_lacksDoctor_155 (fun h155 => ?_) (fun h155 => ?_)
              · skip
                refine pw_const r_12_lacksDoctor_177 ?_
                refine pw_goto r_12_lacksDoctor_178 ?_
                refine pw_istore (ls' := [some (vR 12 (0)), some (vI (1)), some (vI (c)), some (vI (s3)), some (vI (s4)), some (vI (s5)), some (vI (pDiv (((s3 + (gF G 12 (0) 62)) - 1)) (gF G 12 (0) 62)))]) r_12_lacksDoctor_182 rfl rfl ?_
                refine pw_iinc (b := 0) (ls' := [some (vR 12 (0)), some (vI (1)), some (vI ((c + 1))), some (vI (s3)), some (vI (s4)), some (vI (s5)), some (vI (pDiv (((s3 + (gF G 12 (0) 62)) - 1)) (gF G 12 (0) 62)))]) r_12_lacksDoctor_183 rfl rfl (by omega) rfl ?_
                refine pw_goto r_12_lacksDoctor_186 ?_
                refine pw_weakL (ls' := [some (vR 12 (0)), some (vI (1)), some (vI ((c + 1))), none, none, none, none]) (⟨rfl, ⟨rfl, ⟨rfl, trivial⟩⟩⟩) ?_
                refine ih4 ((c + 1)) (1) (by first | assumption | omega) ?_ (by omega)
                · skip
                  have ei : i = (gF G 12 0 17) := by omega
                  rw [ei] at hk hd hl
                  have hk : s3 = sickM G go c := hk
                  have hd : s4 = hadM G c := hd
                  have hl : s5 = leftM G go c := hl
                  by_cases q : s5 < min (pDiv (s3 + (gF G 12 0 62) - 1) (gF G 12 0 62)) s4
                  · first | exact Or.inl ⟨rfl, c, hcc.1, by omega, by rw [← hk, ← hd, ← hl]; exact q⟩ | (exfalso; omega)
                  · have key : (∃ x, 0 ≤ x ∧ x < c ∧ leftM G go x < min (pDiv (sickM G go x + (gF G 12 0 62) - 1) (gF G 12 0 62)) (hadM G x)) ↔ (∃ x, 0 ≤ x ∧ x < (c + 1) ∧ leftM G go x < min (pDiv (sickM G go x + (gF G 12 0 62) - 1) (gF G 12 0 62)) (hadM G x)) := ⟨fun ⟨x, a, b, e⟩ => ⟨x, a, by omega, e⟩, fun ⟨x, a, b, e⟩ => ⟨x, a, by rcases (show x < c ∨ x = c by omega) with z | z; exact z; exact absurd (by rw [hk, hd, hl, ← z]; exact e) q, e⟩⟩
                    rw [← propext key]
                    first | exact hv | (rcases hv with ⟨y, z⟩ | ⟨y, z⟩; exact Or.inl ⟨rfl, z⟩; exfalso; omega) | (rcases hv with ⟨y, z⟩ | ⟨y, z⟩; exfalso; omega; exact Or.inr ⟨rfl, z⟩)
              · skip
                refine pw_iload r_12_lacksDoctor_158 rfl ?_
                refine pw_iload r_12_lacksDoctor_160 rfl ?_
                refine pw_iload r_12_lacksDoctor_162 rfl ?_
                refine pw_icmp_ge r_12_lacksDoctor_164 (fun h164 => ?_) (fun h164 => ?_)
                · skip
                  refine pw_iload r_12_lacksDoctor_172 rfl ?_
                  refine pw_icmp_ge r_12_lacksDoctor_174 (fun h174 => ?_) (fun h174 => ?_)
                  · skip
                    refine pw_const r_12_lacksDoctor_181 ?_
                    refine pw_istore (ls' := [some (vR 12 (0)), some (vI (0)), some (vI (c)), some (vI (s3)), some (vI (s4)), some (vI (s5)), some (vI (pDiv (((s3 + (gF G 12 (0) 62)) - 1)) (gF G 12 (0) 62)))]) r_12_lacksDoctor_182 rfl rfl ?_
                    refine pw_iinc (b := 0) (ls' := [some (vR 12 (0)), some (vI (0)), some (vI ((c + 1))), some (vI (s3)), some (vI (s4)), some (vI (s5)), some (vI (pDiv (((s3 + (gF G 12 (0) 62)) - 1)) (gF G 12 (0) 62)))]) r_12_lacksDoctor_183 rfl rfl (by omega) rfl ?_
                    refine pw_goto r_12_lacksDoctor_186 ?_
                    refine pw_weakL (ls' := [some (vR 12 (0)), some (vI (0)), some (vI ((c + 1))), none, none, none, none]) (⟨rfl, ⟨rfl, ⟨rfl, trivial⟩⟩⟩) ?_
                    refine ih4 ((c + 1)) (0) (by first | assumption | omega) ?_ (by omega)
                    · skip
                      have ei : i = (gF G 12 0 17) := by omega
                      rw [ei] at hk hd hl
                      have hk : s3 = sickM G go c := hk
                      have hd : s4 = hadM G c := hd
                      have hl : s5 = leftM G go c := hl
                      by_cases q : s5 < min (pDiv (s3 + (gF G 12 0 62) - 1) (gF G 12 0 62)) s4
                      · first | exact Or.inl ⟨rfl, c, hcc.1, by omega, by rw [← hk, ← hd, ← hl]; exact q⟩ | (exfalso; omega)
                      · have key : (∃ x, 0 ≤ x ∧ x < c ∧ leftM G go x < min (pDiv (sickM G go x + (gF G 12 0 62) - 1) (gF G 12 0 62)) (hadM G x)) ↔ (∃ x, 0 ≤ x ∧ x < (c + 1) ∧ leftM G go x < min (pDiv (sickM G go x + (gF G 12 0 62) - 1) (gF G 12 0 62)) (hadM G x)) := ⟨fun ⟨x, a, b, e⟩ => ⟨x, a, by omega, e⟩, fun ⟨x, a, b, e⟩ => ⟨x, a, by rcases (show x < c ∨ x = c by omega) with z | z; exact z; exact absurd (by rw [hk, hd, hl, ← z]; exact e) q, e⟩⟩
                        rw [← propext key]
                        first | exact hv | (rcases hv with ⟨y, z⟩ | ⟨y, z⟩; exact Or.inl ⟨rfl, z⟩; exfalso; omega) | (rcases hv with ⟨y, z⟩ | ⟨y, z⟩; exfalso; omega; exact Or.inr ⟨rfl, z⟩)
                  · skip
                    refine pw_const r_12_lacksDoctor_177 ?_
                    refine pw_goto r_12_lacksDoctor_178 ?_
                    refine pw_istore (ls' := [some (vR 12 (0)), some (vI (1)), some (vI (c)), some (vI (s3)), some (vI (s4)), some (vI (s5)), some (vI (pDiv (((s3 + (gF G 12 (0) 62)) - 1)) (gF G 12 (0) 62)))]) r_12_lacksDoctor_182 rfl rfl ?_
                    refine pw_iinc (b := 0) (ls' := [some (vR 12 (0)), some (vI (1)), some (vI ((c + 1))), some (vI (s3)), some (vI (s4)), some (vI (s5)), some (vI (pDiv (((s3 + (gF G 12 (0) 62)) - 1)) (gF G 12 (0) 62)))]) r_12_lacksDoctor_183 rfl rfl (by omega) rfl ?_
                    refine pw_goto r_12_lacksDoctor_186 ?_
                    refine pw_weakL (ls' := [some (vR 12 (0)), some (vI (1)), some (vI ((c + 1))), none, none, none, none]) (⟨rfl, ⟨rfl, ⟨rfl, trivial⟩⟩⟩) ?_
                    refine ih4 ((c + 1)) (1) (by first | assumption | omega) ?_ (by omega)
                    · skip
                      have ei : i = (gF G 12 0 17) := by omega
                      rw [ei] at hk hd hl
                      have hk : s3 = sickM G go c := hk
                      have hd : s4 = hadM G c := hd
                      have hl : s5 = leftM G go c := hl
                      by_cases q : s5 < min (pDiv (s3 + (gF G 12 0 62) - 1) (gF G 12 0 62)) s4
                      · first | exact Or.inl ⟨rfl, c, hcc.1, by omega, by rw [← hk, ← hd, ← hl]; exact q⟩ | (exfalso; omega)
                      · have key : (∃ x, 0 ≤ x ∧ x < c ∧ leftM G go x < min (pDiv (sickM G go x + (gF G 12 0 62) - 1) (gF G 12 0 62)) (hadM G x)) ↔ (∃ x, 0 ≤ x ∧ x < (c + 1) ∧ leftM G go x < min (pDiv (sickM G go x + (gF G 12 0 62) - 1) (gF G 12 0 62)) (hadM G x)) := ⟨fun ⟨x, a, b, e⟩ => ⟨x, a, by omega, e⟩, fun ⟨x, a, b, e⟩ => ⟨x, a, by rcases (show x < c ∨ x = c by omega) with z | z; exact z; exact absurd (by rw [hk, hd, hl, ← z]; exact e) q, e⟩⟩
                        rw [← propext key]
                        first | exact hv | (rcases hv with ⟨y, z⟩ | ⟨y, z⟩; exact Or.inl ⟨rfl, z⟩; exfalso; omega) | (rcases hv with ⟨y, z⟩ | ⟨y, z⟩; exfalso; omega; exact Or.inr ⟨rfl, z⟩)
                · skip
                  refine pw_iload r_12_lacksDoctor_167 rfl ?_
                  refine pw_goto r_12_lacksDoctor_169 ?_
                  refine pw_icmp_ge r_12_lacksDoctor_174 (fun h174 => ?_) (fun h174 => ?_)
                  · skip
                    refine pw_const r_12_lacksDoctor_181 ?_
                    refine pw_istore (ls' := [some (vR 12 (0)), some (vI (0)), some (vI (c)), some (vI (s3)), some (vI (s4)), some (vI (s5)), some (vI (pDiv (((s3 + (gF G 12 (0) 62)) - 1)) (gF G 12 (0) 62)))]) r_12_lacksDoctor_182 rfl rfl ?_
                    refine pw_iinc (b := 0) (ls' := [some (vR 12 (0)), some (vI (0)), some (vI ((c + 1))), some (vI (s3)), some (vI (s4)), some (vI (s5)), some (vI (pDiv (((s3 + (gF G 12 (0) 62)) - 1)) (gF G 12 (0) 62)))]) r_12_lacksDoctor_183 rfl rfl (by omega) rfl ?_
                    refine pw_goto r_12_lacksDoctor_186 ?_
                    refine pw_weakL (ls' := [some (vR 12 (0)), some (vI (0)), some (vI ((c + 1))), none, none, none, none]) (⟨rfl, ⟨rfl, ⟨rfl, trivial⟩⟩⟩) ?_
                    refine ih4 ((c + 1)) (0) (by first | assumption | omega) ?_ (by omega)
                    · skip
                      have ei : i = (gF G 12 0 17) := by omega
                      rw [ei] at hk hd hl
                      have hk : s3 = sickM G go c := hk
                      have hd : s4 = hadM G c := hd
                      have hl : s5 = leftM G go c := hl
                      by_cases q : s5 < min (pDiv (s3 + (gF G 12 0 62) - 1) (gF G 12 0 62)) s4
                      · first | exact Or.inl ⟨rfl, c, hcc.1, by omega, by rw [← hk, ← hd, ← hl]; exact q⟩ | (exfalso; omega)
                      · have key : (∃ x, 0 ≤ x ∧ x < c ∧ leftM G go x < min (pDiv (sickM G go x + (gF G 12 0 62) - 1) (gF G 12 0 62)) (hadM G x)) ↔ (∃ x, 0 ≤ x ∧ x < (c + 1) ∧ leftM G go x < min (pDiv (sickM G go x + (gF G 12 0 62) - 1) (gF G 12 0 62)) (hadM G x)) := ⟨fun ⟨x, a, b, e⟩ => ⟨x, a, by omega, e⟩, fun ⟨x, a, b, e⟩ => ⟨x, a, by rcases (show x < c ∨ x = c by omega) with z | z; exact z; exact absurd (by rw [hk, hd, hl, ← z]; exact e) q, e⟩⟩
                        rw [← propext key]
                        first | exact hv | (rcases hv with ⟨y, z⟩ | ⟨y, z⟩; exact Or.inl ⟨rfl, z⟩; exfalso; omega) | (rcases hv with ⟨y, z⟩ | ⟨y, z⟩; exfalso; omega; exact Or.inr ⟨rfl, z⟩)
                  · skip
                    refine pw_const r_12_lacksDoctor_177 ?_
                    refine pw_goto r_12_lacksDoctor_178 ?_
                    refine pw_istore (ls' := [some (vR 12 (0)), some (vI (1)), some (vI (c)), some (vI (s3)), some (vI (s4)), some (vI (s5)), some (vI (pDiv (((s3 + (gF G 12 (0) 62)) - 1)) (gF G 12 (0) 62)))]) r_12_lacksDoctor_182 rfl rfl ?_
                    refine pw_iinc (b := 0) (ls' := [some (vR 12 (0)), some (vI (1)), some (vI ((c + 1))), some (vI (s3)), some (vI (s4)), some (vI (s5)), some (vI (pDiv (((s3 + (gF G 12 (0) 62)) - 1)) (gF G 12 (0) 62)))]) r_12_lacksDoctor_183 rfl rfl (by omega) rfl ?_
                    refine pw_goto r_12_lacksDoctor_186 ?_
                    refine pw_weakL (ls' := [some (vR 12 (0)), some (vI (1)), some (vI ((c + 1))), none, none, none, none]) (⟨rfl, ⟨rfl, ⟨rfl, trivial⟩⟩⟩) ?_
                    refine ih4 ((c + 1)) (1) (by first | assumption | omega) ?_ (by omega)
                    · skip
                      have ei : i = (gF G 12 0 17) := by omega
                      rw [ei] at hk hd hl
                      have hk : s3 = sickM G go c := hk
                      have hd : s4 = hadM G c := hd
                      have hl : s5 = leftM G go c := hl
                      by_cases q : s5 < min (pDiv (s3 + (gF G 12 0 62) - 1) (gF G 12 0 62)) s4
                      · first | exact Or.inl ⟨rfl, c, hcc.1, by omega, by rw [← hk, ← hd, ← hl]; exact q⟩ | (exfalso; omega)
                      · have key : (∃ x, 0 ≤ x ∧ x < c ∧ leftM G go x < min (pDiv (sickM G go x + (gF G 12 0 62) - 1) (gF G 12 0 62)) (hadM G x)) ↔ (∃ x, 0 ≤ x ∧ x < (c + 1) ∧ leftM G go x < min (pDiv (sickM G go x + (gF G 12 0 62) - 1) (gF G 12 0 62)) (hadM G x)) := ⟨fun ⟨x, a, b, e⟩ => ⟨x, a, by omega, e⟩, fun ⟨x, a, b, e⟩ => ⟨x, a, by rcases (show x < c ∨ x = c by omega) with z | z; exact z; exact absurd (by rw [hk, hd, hl, ← z]; exact e) q, e⟩⟩
                        rw [← propext key]
                        first | exact hv | (rcases hv with ⟨y, z⟩ | ⟨y, z⟩; exact Or.inl ⟨rfl, z⟩; exfalso; omega) | (rcases hv with ⟨y, z⟩ | ⟨y, z⟩; exfalso; omega; exact Or.inr ⟨rfl, z⟩)
            · skip
              have gq := hgo i hi.1 (by omega)
              have gnot : (gA G 247 0 (i)) = 0 → ¬ go i := fun z y => by rw [gq, b2i_t y] at z; omega
              have gyes : (gA G 247 0 (i)) ≠ 0 → ¬ ¬ go i := fun z y => z (by rw [gq, b2i_f y])
              refine pw_aload r_12_lacksDoctor_32 rfl ?_
              refine pw_getR r_12_lacksDoctor_33 fs_12_8 (by decide) ?_
              refine pw_iload r_12_lacksDoctor_36 rfl ?_
              refine pw_iald r_12_lacksDoctor_38 sh206 (by omega) (by omega) ?_
              refine pw_if_ne r_12_lacksDoctor_39 (fun h39 => ?_) (fun h39 => ?_)
              · skip
                refine pw_iinc (b := 0) (ls' := [some (vR 12 (0)), some (vI (v)), some (vI (c)), some (vI (s3)), some (vI (s4)), some (vI (s5)), some (vI ((i + 1)))]) r_12_lacksDoctor_133 rfl rfl (by omega) rfl ?_
                refine pw_goto r_12_lacksDoctor_136 ?_
                exact ih23 ((i + 1)) (s3) (s4) (s5) (by first | assumption | omega) (by rw [hk, cnt_f hi.1 (show ¬ (((gA G 206 0 (i)) = 0 ∧ (gA G 207 0 (i)) = c) ∧ 0 < (gA G 210 0 (i)) ∧ ¬ go i) from fun z => by have z1 := z.1.1; have z2 := z.1.2; have z3 := z.2.1; have z4 := z.2.2; by_cases y : (gA G 247 0 (i)) = 0; omega; exact gyes y z4)]) (by rw [hd, cnt_f hi.1 (show ¬ (((gA G 206 0 (i)) = 0 ∧ (gA G 207 0 (i)) = c) ∧ (gA G 204 0 (i)) = 3) from fun z => by have z1 := z.1.1; have z2 := z.1.2; have z3 := z.2; omega)]) (by rw [hl, cnt_f hi.1 (show ¬ (((gA G 206 0 (i)) = 0 ∧ (gA G 207 0 (i)) = c) ∧ (gA G 204 0 (i)) = 3 ∧ ¬ go i) from fun z => by have z1 := z.1.1; have z2 := z.1.2; have z3 := z.2.1; have z4 := z.2.2; by_cases y : (gA G 247 0 (i)) = 0; omega; exact gyes y z4)]) (by omega)
              · skip
                refine pw_aload r_12_lacksDoctor_42 rfl ?_
                refine pw_getR r_12_lacksDoctor_43 fs_12_9 (by decide) ?_
                refine pw_iload r_12_lacksDoctor_46 rfl ?_
                refine pw_iald r_12_lacksDoctor_48 sh207 (by omega) (by omega) ?_
                refine pw_iload r_12_lacksDoctor_49 rfl ?_
                refine pw_icmp_ne r_12_lacksDoctor_50 (fun h50 => ?_) (fun h50 => ?_)
                · skip
                  refine pw_iinc (b := 0) (ls' := [some (vR 12 (0)), some (vI (v)), some (vI (c)), some (vI (s3)), some (vI (s4)), some (vI (s5)), some (vI ((i + 1)))]) r_12_lacksDoctor_133 rfl rfl (by omega) rfl ?_
                  refine pw_goto r_12_lacksDoctor_136 ?_
                  exact ih23 ((i + 1)) (s3) (s4) (s5) (by first | assumption | omega) (by rw [hk, cnt_f hi.1 (show ¬ (((gA G 206 0 (i)) = 0 ∧ (gA G 207 0 (i)) = c) ∧ 0 < (gA G 210 0 (i)) ∧ ¬ go i) from fun z => by have z1 := z.1.1; have z2 := z.1.2; have z3 := z.2.1; have z4 := z.2.2; by_cases y : (gA G 247 0 (i)) = 0; omega; exact gyes y z4)]) (by rw [hd, cnt_f hi.1 (show ¬ (((gA G 206 0 (i)) = 0 ∧ (gA G 207 0 (i)) = c) ∧ (gA G 204 0 (i)) = 3) from fun z => by have z1 := z.1.1; have z2 := z.1.2; have z3 := z.2; omega)]) (by rw [hl, cnt_f hi.1 (show ¬ (((gA G 206 0 (i)) = 0 ∧ (gA G 207 0 (i)) = c) ∧ (gA G 204 0 (i)) = 3 ∧ ¬ go i) from fun z => by have z1 := z.1.1; have z2 := z.1.2; have z3 := z.2.1; have z4 := z.2.2; by_cases y : (gA G 247 0 (i)) = 0; omega; exact gyes y z4)]) (by omega)
                · skip
                  refine pw_iload r_12_lacksDoctor_53 rfl ?_
                  refine pw_aload r_12_lacksDoctor_54 rfl ?_
                  refine pw_getR r_12_lacksDoctor_55 fs_12_12 (by decide) ?_
                  refine pw_iload r_12_lacksDoctor_58 rfl ?_
                  refine pw_iald r_12_lacksDoctor_60 sh210 (by omega) (by omega) ?_
                  refine pw_if_le r_12_lacksDoctor_61 (fun h61 => ?_) (fun h61 => ?_)
                  · skip
                    refine pw_const r_12_lacksDoctor_78 ?_
                    refine pw_iadd r_12_lacksDoctor_79 (by omega) ?_
                    refine pw_istore (ls' := [some (vR 12 (0)), some (vI (v)), some (vI (c)), some (vI ((s3 + 0))), some (vI (s4)), some (vI (s5)), some (vI (i))]) r_12_lacksDoctor_80 rfl rfl ?_
                    refine pw_iload r_12_lacksDoctor_81 rfl ?_
                    refine pw_aload r_12_lacksDoctor_83 rfl ?_
                    refine pw_getR r_12_lacksDoctor_84 fs_12_6 (by decide) ?_
                    refine pw_iload r_12_lacksDoctor_87 rfl ?_
                    refine pw_iald r_12_lacksDoctor_89 sh204 (by omega) (by omega) ?_
                    refine pw_const r_12_lacksDoctor_90 ?_
                    refine pw_icmp_ne r_12_lacksDoctor_91 (fun h91 => ?_) (fun h91 => ?_)
                    · skip
                      refine pw_const r_12_lacksDoctor_98 ?_
                      refine pw_iadd r_12_lacksDoctor_99 (by omega) ?_
                      refine pw_istore (ls' := [some (vR 12 (0)), some (vI (v)), some (vI (c)), some (vI ((s3 + 0))), some (vI ((s4 + 0))), some (vI (s5)), some (vI (i))]) r_12_lacksDoctor_100 rfl rfl ?_
                      refine pw_iload r_12_lacksDoctor_102 rfl ?_
                      refine pw_aload r_12_lacksDoctor_104 rfl ?_
                      refine pw_getR r_12_lacksDoctor_105 fs_12_6 (by decide) ?_
                      refine pw_iload r_12_lacksDoctor_108 rfl ?_
                      refine pw_iald r_12_lacksDoctor_110 sh204 (by omega) (by omega) ?_
                      refine pw_const r_12_lacksDoctor_111 ?_
                      refine pw_icmp_ne r_12_lacksDoctor_112 (fun h112 => ?_) (fun h112 => ?_)
                      · skip
                        refine pw_const r_12_lacksDoctor_129 ?_
                        refine pw_iadd r_12_lacksDoctor_130 (by omega) ?_
                        refine pw_istore (ls' := [some (vR 12 (0)), some (vI (v)), some (vI (c)), some (vI ((s3 + 0))), some (vI ((s4 + 0))), some (vI ((s5 + 0))), some (vI (i))]) r_12_lacksDoctor_131 rfl rfl ?_
                        refine pw_iinc (b := 0) (ls' := [some (vR 12 (0)), some (vI (v)), some (vI (c)), some (vI ((s3 + 0))), some (vI ((s4 + 0))), some (vI ((s5 + 0))), some (vI ((i + 1)))]) r_12_lacksDoctor_133 rfl rfl (by omega) rfl ?_
                        refine pw_goto r_12_lacksDoctor_136 ?_
                        exact ih23 ((i + 1)) ((s3 + 0)) ((s4 + 0)) ((s5 + 0)) (by first | assumption | omega) (by rw [hk, Int.add_zero, cnt_f hi.1 (show ¬ (((gA G 206 0 (i)) = 0 ∧ (gA G 207 0 (i)) = c) ∧ 0 < (gA G 210 0 (i)) ∧ ¬ go i) from fun z => by have z1 := z.1.1; have z2 := z.1.2; have z3 := z.2.1; have z4 := z.2.2; by_cases y : (gA G 247 0 (i)) = 0; omega; exact gyes y z4)]) (by rw [hd, Int.add_zero, cnt_f hi.1 (show ¬ (((gA G 206 0 (i)) = 0 ∧ (gA G 207 0 (i)) = c) ∧ (gA G 204 0 (i)) = 3) from fun z => by have z1 := z.1.1; have z2 := z.1.2; have z3 := z.2; omega)]) (by rw [hl, Int.add_zero, cnt_f hi.1 (show ¬ (((gA G 206 0 (i)) = 0 ∧ (gA G 207 0 (i)) = c) ∧ (gA G 204 0 (i)) = 3 ∧ ¬ go i) from fun z => by have z1 := z.1.1; have z2 := z.1.2; have z3 := z.2.1; have z4 := z.2.2; by_cases y : (gA G 247 0 (i)) = 0; omega; exact gyes y z4)]) (by omega)
                      · skip
                        refine pw_aload r_12_lacksDoctor_115 rfl ?_
                        refine pw_getR r_12_lacksDoctor_116 fs_12_67 (by decide) ?_
                        refine pw_iload r_12_lacksDoctor_119 rfl ?_
                        refine pw_zald r_12_lacksDoctor_121 sh247 (by omega) (by omega) ?_
                        refine pw_if_ne r_12_lacksDoctor_122 (fun h122 => ?_) (fun h122 => ?_)
                        · skip
                          refine pw_const r_12_lacksDoctor_129 ?_
                          refine pw_iadd r_12_lacksDoctor_130 (by omega) ?_
                          refine pw_istore (ls' := [some (vR 12 (0)), some (vI (v)), some (vI (c)), some (vI ((s3 + 0))), some (vI ((s4 + 0))), some (vI ((s5 + 0))), some (vI (i))]) r_12_lacksDoctor_131 rfl rfl ?_
                          refine pw_iinc (b := 0) (ls' := [some (vR 12 (0)), some (vI (v)), some (vI (c)), some (vI ((s3 + 0))), some (vI ((s4 + 0))), some (vI ((s5 + 0))), some (vI ((i + 1)))]) r_12_lacksDoctor_133 rfl rfl (by omega) rfl ?_
                          refine pw_goto r_12_lacksDoctor_136 ?_
                          exact ih23 ((i + 1)) ((s3 + 0)) ((s4 + 0)) ((s5 + 0)) (by first | assumption | omega) (by rw [hk, Int.add_zero, cnt_f hi.1 (show ¬ (((gA G 206 0 (i)) = 0 ∧ (gA G 207 0 (i)) = c) ∧ 0 < (gA G 210 0 (i)) ∧ ¬ go i) from fun z => by have z1 := z.1.1; have z2 := z.1.2; have z3 := z.2.1; have z4 := z.2.2; by_cases y : (gA G 247 0 (i)) = 0; omega; exact gyes y z4)]) (by rw [hd, Int.add_zero, cnt_f hi.1 (show ¬ (((gA G 206 0 (i)) = 0 ∧ (gA G 207 0 (i)) = c) ∧ (gA G 204 0 (i)) = 3) from fun z => by have z1 := z.1.1; have z2 := z.1.2; have z3 := z.2; omega)]) (by rw [hl, Int.add_zero, cnt_f hi.1 (show ¬ (((gA G 206 0 (i)) = 0 ∧ (gA G 207 0 (i)) = c) ∧ (gA G 204 0 (i)) = 3 ∧ ¬ go i) from fun z => by have z1 := z.1.1; have z2 := z.1.2; have z3 := z.2.1; have z4 := z.2.2; by_cases y : (gA G 247 0 (i)) = 0; omega; exact gyes y z4)]) (by omega)
                        · skip
                          refine pw_const r_12_lacksDoctor_125 ?_
                          refine pw_goto r_12_lacksDoctor_126 ?_
                          refine pw_iadd r_12_lacksDoctor_130 (by omega) ?_
                          refine pw_istore (ls' := [some (vR 12 (0)), some (vI (v)), some (vI (c)), some (vI ((s3 + 0))), some (vI ((s4 + 0))), some (vI ((s5 + 1))), some (vI (i))]) r_12_lacksDoctor_131 rfl rfl ?_
                          refine pw_iinc (b := 0) (ls' := [some (vR 12 (0)), some (vI (v)), some (vI (c)), some (vI ((s3 + 0))), some (vI ((s4 + 0))), some (vI ((s5 + 1))), some (vI ((i + 1)))]) r_12_lacksDoctor_133 rfl rfl (by omega) rfl ?_
                          refine pw_goto r_12_lacksDoctor_136 ?_
                          exact ih23 ((i + 1)) ((s3 + 0)) ((s4 + 0)) ((s5 + 1)) (by first | assumption | omega) (by rw [hk, Int.add_zero, cnt_f hi.1 (show ¬ (((gA G 206 0 (i)) = 0 ∧ (gA G 207 0 (i)) = c) ∧ 0 < (gA G 210 0 (i)) ∧ ¬ go i) from fun z => by have z1 := z.1.1; have z2 := z.1.2; have z3 := z.2.1; have z4 := z.2.2; by_cases y : (gA G 247 0 (i)) = 0; omega; exact gyes y z4)]) (by rw [hd, Int.add_zero, cnt_f hi.1 (show ¬ (((gA G 206 0 (i)) = 0 ∧ (gA G 207 0 (i)) = c) ∧ (gA G 204 0 (i)) = 3) from fun z => by have z1 := z.1.1; have z2 := z.1.2; have z3 := z.2; omega)]) (by rw [hl, cnt_t hi.1 (show (((gA G 206 0 (i)) = 0 ∧ (gA G 207 0 (i)) = c) ∧ (gA G 204 0 (i)) = 3 ∧ ¬ go i) from ⟨⟨by omega, by omega⟩, by omega, gnot (by omega)⟩)]) (by omega)
                    · skip
                      refine pw_const r_12_lacksDoctor_94 ?_
                      refine pw_goto r_12_lacksDoctor_95 ?_
                      refine pw_iadd r_12_lacksDoctor_99 (by omega) ?_
                      refine pw_istore (ls' := [some (vR 12 (0)), some (vI (v)), some (vI (c)), some (vI ((s3 + 0))), some (vI ((s4 + 1))), some (vI (s5)), some (vI (i))]) r_12_lacksDoctor_100 rfl rfl ?_
                      refine pw_iload r_12_lacksDoctor_102 rfl ?_
                      refine pw_aload r_12_lacksDoctor_104 rfl ?_
                      refine pw_getR r_12_lacksDoctor_105 fs_12_6 (by decide) ?_
                      refine pw_iload r_12_lacksDoctor_108 rfl ?_
                      refine pw_iald r_12_lacksDoctor_110 sh204 (by omega) (by omega) ?_
                      refine pw_const r_12_lacksDoctor_111 ?_
                      refine pw_icmp_ne r_12_lacksDoctor_112 (fun h112 => ?_) (fun h112 => ?_)
                      · skip
                        refine pw_const r_12_lacksDoctor_129 ?_
                        refine pw_iadd r_12_lacksDoctor_130 (by omega) ?_
                        refine pw_istore (ls' := [some (vR 12 (0)), some (vI (v)), some (vI (c)), some (vI ((s3 + 0))), some (vI ((s4 + 1))), some (vI ((s5 + 0))), some (vI (i))]) r_12_lacksDoctor_131 rfl rfl ?_
                        refine pw_iinc (b := 0) (ls' := [some (vR 12 (0)), some (vI (v)), some (vI (c)), some (vI ((s3 + 0))), some (vI ((s4 + 1))), some (vI ((s5 + 0))), some (vI ((i + 1)))]) r_12_lacksDoctor_133 rfl rfl (by omega) rfl ?_
                        refine pw_goto r_12_lacksDoctor_136 ?_
                        exact ih23 ((i + 1)) ((s3 + 0)) ((s4 + 1)) ((s5 + 0)) (by first | assumption | omega) (by rw [hk, Int.add_zero, cnt_f hi.1 (show ¬ (((gA G 206 0 (i)) = 0 ∧ (gA G 207 0 (i)) = c) ∧ 0 < (gA G 210 0 (i)) ∧ ¬ go i) from fun z => by have z1 := z.1.1; have z2 := z.1.2; have z3 := z.2.1; have z4 := z.2.2; by_cases y : (gA G 247 0 (i)) = 0; omega; exact gyes y z4)]) (by rw [hd, cnt_t hi.1 (show (((gA G 206 0 (i)) = 0 ∧ (gA G 207 0 (i)) = c) ∧ (gA G 204 0 (i)) = 3) from ⟨⟨by omega, by omega⟩, by omega⟩)]) (by rw [hl, Int.add_zero, cnt_f hi.1 (show ¬ (((gA G 206 0 (i)) = 0 ∧ (gA G 207 0 (i)) = c) ∧ (gA G 204 0 (i)) = 3 ∧ ¬ go i) from fun z => by have z1 := z.1.1; have z2 := z.1.2; have z3 := z.2.1; have z4 := z.2.2; by_cases y : (gA G 247 0 (i)) = 0; omega; exact gyes y z4)]) (by omega)
                      · skip
                        refine pw_aload r_12_lacksDoctor_115 rfl ?_
                        refine pw_getR r_12_lacksDoctor_116 fs_12_67 (by decide) ?_
                        refine pw_iload r_12_lacksDoctor_119 rfl ?_
                        refine pw_zald r_12_lacksDoctor_121 sh247 (by omega) (by omega) ?_
                        refine pw_if_ne r_12_lacksDoctor_122 (fun h122 => ?_) (fun h122 => ?_)
                        · skip
                          refine pw_const r_12_lacksDoctor_129 ?_
                          refine pw_iadd r_12_lacksDoctor_130 (by omega) ?_
                          refine pw_istore (ls' := [some (vR 12 (0)), some (vI (v)), some (vI (c)), some (vI ((s3 + 0))), some (vI ((s4 + 1))), some (vI ((s5 + 0))), some (vI (i))]) r_12_lacksDoctor_131 rfl rfl ?_
                          refine pw_iinc (b := 0) (ls' := [some (vR 12 (0)), some (vI (v)), some (vI (c)), some (vI ((s3 + 0))), some (vI ((s4 + 1))), some (vI ((s5 + 0))), some (vI ((i + 1)))]) r_12_lacksDoctor_133 rfl rfl (by omega) rfl ?_
                          refine pw_goto r_12_lacksDoctor_136 ?_
                          exact ih23 ((i + 1)) ((s3 + 0)) ((s4 + 1)) ((s5 + 0)) (by first | assumption | omega) (by rw [hk, Int.add_zero, cnt_f hi.1 (show ¬ (((gA G 206 0 (i)) = 0 ∧ (gA G 207 0 (i)) = c) ∧ 0 < (gA G 210 0 (i)) ∧ ¬ go i) from fun z => by have z1 := z.1.1; have z2 := z.1.2; have z3 := z.2.1; have z4 := z.2.2; by_cases y : (gA G 247 0 (i)) = 0; omega; exact gyes y z4)]) (by rw [hd, cnt_t hi.1 (show (((gA G 206 0 (i)) = 0 ∧ (gA G 207 0 (i)) = c) ∧ (gA G 204 0 (i)) = 3) from ⟨⟨by omega, by omega⟩, by omega⟩)]) (by rw [hl, Int.add_zero, cnt_f hi.1 (show ¬ (((gA G 206 0 (i)) = 0 ∧ (gA G 207 0 (i)) = c) ∧ (gA G 204 0 (i)) = 3 ∧ ¬ go i) from fun z => by have z1 := z.1.1; have z2 := z.1.2; have z3 := z.2.1; have z4 := z.2.2; by_cases y : (gA G 247 0 (i)) = 0; omega; exact gyes y z4)]) (by omega)
                        · skip
                          refine pw_const r_12_lacksDoctor_125 ?_
                          refine pw_goto r_12_lacksDoctor_126 ?_
                          refine pw_iadd r_12_lacksDoctor_130 (by omega) ?_
                          refine pw_istore (ls' := [some (vR 12 (0)), some (vI (v)), some (vI (c)), some (vI ((s3 + 0))), some (vI ((s4 + 1))), some (vI ((s5 + 1))), some (vI (i))]) r_12_lacksDoctor_131 rfl rfl ?_
                          refine pw_iinc (b := 0) (ls' := [some (vR 12 (0)), some (vI (v)), some (vI (c)), some (vI ((s3 + 0))), some (vI ((s4 + 1))), some (vI ((s5 + 1))), some (vI ((i + 1)))]) r_12_lacksDoctor_133 rfl rfl (by omega) rfl ?_
                          refine pw_goto r_12_lacksDoctor_136 ?_
                          exact ih23 ((i + 1)) ((s3 + 0)) ((s4 + 1)) ((s5 + 1)) (by first | assumption | omega) (by rw [hk, Int.add_zero, cnt_f hi.1 (show ¬ (((gA G 206 0 (i)) = 0 ∧ (gA G 207 0 (i)) = c) ∧ 0 < (gA G 210 0 (i)) ∧ ¬ go i) from fun z => by have z1 := z.1.1; have z2 := z.1.2; have z3 := z.2.1; have z4 := z.2.2; by_cases y : (gA G 247 0 (i)) = 0; omega; exact gyes y z4)]) (by rw [hd, cnt_t hi.1 (show (((gA G 206 0 (i)) = 0 ∧ (gA G 207 0 (i)) = c) ∧ (gA G 204 0 (i)) = 3) from ⟨⟨by omega, by omega⟩, by omega⟩)]) (by rw [hl, cnt_t hi.1 (show (((gA G 206 0 (i)) = 0 ∧ (gA G 207 0 (i)) = c) ∧ (gA G 204 0 (i)) = 3 ∧ ¬ go i) from ⟨⟨by omega, by omega⟩, by omega, gnot (by omega)⟩)]) (by omega)
                  · skip
                    refine pw_aload r_12_lacksDoctor_64 rfl ?_
                    refine pw_getR r_12_lacksDoctor_65 fs_12_67 (by decide) ?_
                    refine pw_iload r_12_lacksDoctor_68 rfl ?_
                    refine pw_zald r_12_lacksDoctor_70 sh247 (by omega) (by omega) ?_
                    refine pw_if_ne r_12_lacksDoctor_71 (fun h71 => ?_) (fun h71 => ?_)
                    · skip
                      refine pw_const r_12_lacksDoctor_78 ?_
                      refine pw_iadd r_12_lacksDoctor_79 (by omega) ?_
                      refine pw_istore (ls' := [some (vR 12 (0)), some (vI (v)), some (vI (c)), some (vI ((s3 + 0))), some (vI (s4)), some (vI (s5)), some (vI (i))]) r_12_lacksDoctor_80 rfl rfl ?_
                      refine pw_iload r_12_lacksDoctor_81 rfl ?_
                      refine pw_aload r_12_lacksDoctor_83 rfl ?_
                      refine pw_getR r_12_lacksDoctor_84 fs_12_6 (by decide) ?_
                      refine pw_iload r_12_lacksDoctor_87 rfl ?_
                      refine pw_iald r_12_lacksDoctor_89 sh204 (by omega) (by omega) ?_
                      refine pw_const r_12_lacksDoctor_90 ?_
                      refine pw_icmp_ne r_12_lacksDoctor_91 (fun h91 => ?_) (fun h91 => ?_)
                      · skip
                        refine pw_const r_12_lacksDoctor_98 ?_
                        refine pw_iadd r_12_lacksDoctor_99 (by omega) ?_
                        refine pw_istore (ls' := [some (vR 12 (0)), some (vI (v)), some (vI (c)), some (vI ((s3 + 0))), some (vI ((s4 + 0))), some (vI (s5)), some (vI (i))]) r_12_lacksDoctor_100 rfl rfl ?_
                        refine pw_iload r_12_lacksDoctor_102 rfl ?_
                        refine pw_aload r_12_lacksDoctor_104 rfl ?_
                        refine pw_getR r_12_lacksDoctor_105 fs_12_6 (by decide) ?_
                        refine pw_iload r_12_lacksDoctor_108 rfl ?_
                        refine pw_iald r_12_lacksDoctor_110 sh204 (by omega) (by omega) ?_
                        refine pw_const r_12_lacksDoctor_111 ?_
                        refine pw_icmp_ne r_12_lacksDoctor_112 (fun h112 => ?_) (fun h112 => ?_)
                        · skip
                          refine pw_const r_12_lacksDoctor_129 ?_
                          refine pw_iadd r_12_lacksDoctor_130 (by omega) ?_
                          refine pw_istore (ls' := [some (vR 12 (0)), some (vI (v)), some (vI (c)), some (vI ((s3 + 0))), some (vI ((s4 + 0))), some (vI ((s5 + 0))), some (vI (i))]) r_12_lacksDoctor_131 rfl rfl ?_
                          refine pw_iinc (b := 0) (ls' := [some (vR 12 (0)), some (vI (v)), some (vI (c)), some (vI ((s3 + 0))), some (vI ((s4 + 0))), some (vI ((s5 + 0))), some (vI ((i + 1)))]) r_12_lacksDoctor_133 rfl rfl (by omega) rfl ?_
                          refine pw_goto r_12_lacksDoctor_136 ?_
                          exact ih23 ((i + 1)) ((s3 + 0)) ((s4 + 0)) ((s5 + 0)) (by first | assumption | omega) (by rw [hk, Int.add_zero, cnt_f hi.1 (show ¬ (((gA G 206 0 (i)) = 0 ∧ (gA G 207 0 (i)) = c) ∧ 0 < (gA G 210 0 (i)) ∧ ¬ go i) from fun z => by have z1 := z.1.1; have z2 := z.1.2; have z3 := z.2.1; have z4 := z.2.2; by_cases y : (gA G 247 0 (i)) = 0; omega; exact gyes y z4)]) (by rw [hd, Int.add_zero, cnt_f hi.1 (show ¬ (((gA G 206 0 (i)) = 0 ∧ (gA G 207 0 (i)) = c) ∧ (gA G 204 0 (i)) = 3) from fun z => by have z1 := z.1.1; have z2 := z.1.2; have z3 := z.2; omega)]) (by rw [hl, Int.add_zero, cnt_f hi.1 (show ¬ (((gA G 206 0 (i)) = 0 ∧ (gA G 207 0 (i)) = c) ∧ (gA G 204 0 (i)) = 3 ∧ ¬ go i) from fun z => by have z1 := z.1.1; have z2 := z.1.2; have z3 := z.2.1; have z4 := z.2.2; by_cases y : (gA G 247 0 (i)) = 0; omega; exact gyes y z4)]) (by omega)
                        · skip
                          refine pw_aload r_12_lacksDoctor_115 rfl ?_
                          refine pw_getR r_12_lacksDoctor_116 fs_12_67 (by decide) ?_
                          refine pw_iload r_12_lacksDoctor_119 rfl ?_
                          refine pw_zald r_12_lacksDoctor_121 sh247 (by omega) (by omega) ?_
                          refine pw_if_ne r_12_lacksDoctor_122 (fun h122 => ?_) (fun h122 => ?_)
                          · skip
                            refine pw_const r_12_lacksDoctor_129 ?_
                            refine pw_iadd r_12_lacksDoctor_130 (by omega) ?_
                            refine pw_istore (ls' := [some (vR 12 (0)), some (vI (v)), some (vI (c)), some (vI ((s3 + 0))), some (vI ((s4 + 0))), some (vI ((s5 + 0))), some (vI (i))]) r_12_lacksDoctor_131 rfl rfl ?_
                            refine pw_iinc (b := 0) (ls' := [some (vR 12 (0)), some (vI (v)), some (vI (c)), some (vI ((s3 + 0))), some (vI ((s4 + 0))), some (vI ((s5 + 0))), some (vI ((i + 1)))]) r_12_lacksDoctor_133 rfl rfl (by omega) rfl ?_
                            refine pw_goto r_12_lacksDoctor_136 ?_
                            exact ih23 ((i + 1)) ((s3 + 0)) ((s4 + 0)) ((s5 + 0)) (by first | assumption | omega) (by rw [hk, Int.add_zero, cnt_f hi.1 (show ¬ (((gA G 206 0 (i)) = 0 ∧ (gA G 207 0 (i)) = c) ∧ 0 < (gA G 210 0 (i)) ∧ ¬ go i) from fun z => by have z1 := z.1.1; have z2 := z.1.2; have z3 := z.2.1; have z4 := z.2.2; by_cases y : (gA G 247 0 (i)) = 0; omega; exact gyes y z4)]) (by rw [hd, Int.add_zero, cnt_f hi.1 (show ¬ (((gA G 206 0 (i)) = 0 ∧ (gA G 207 0 (i)) = c) ∧ (gA G 204 0 (i)) = 3) from fun z => by have z1 := z.1.1; have z2 := z.1.2; have z3 := z.2; omega)]) (by rw [hl, Int.add_zero, cnt_f hi.1 (show ¬ (((gA G 206 0 (i)) = 0 ∧ (gA G 207 0 (i)) = c) ∧ (gA G 204 0 (i)) = 3 ∧ ¬ go i) from fun z => by have z1 := z.1.1; have z2 := z.1.2; have z3 := z.2.1; have z4 := z.2.2; by_cases y : (gA G 247 0 (i)) = 0; omega; exact gyes y z4)]) (by omega)
                          · skip
                            refine pw_const r_12_lacksDoctor_125 ?_
                            refine pw_goto r_12_lacksDoctor_126 ?_
                            refine pw_iadd r_12_lacksDoctor_130 (by omega) ?_
                            refine pw_istore (ls' := [some (vR 12 (0)), some (vI (v)), some (vI (c)), some (vI ((s3 + 0))), some (vI ((s4 + 0))), some (vI ((s5 + 1))), some (vI (i))]) r_12_lacksDoctor_131 rfl rfl ?_
                            refine pw_iinc (b := 0) (ls' := [some (vR 12 (0)), some (vI (v)), some (vI (c)), some (vI ((s3 + 0))), some (vI ((s4 + 0))), some (vI ((s5 + 1))), some (vI ((i + 1)))]) r_12_lacksDoctor_133 rfl rfl (by omega) rfl ?_
                            refine pw_goto r_12_lacksDoctor_136 ?_
                            exact ih23 ((i + 1)) ((s3 + 0)) ((s4 + 0)) ((s5 + 1)) (by first | assumption | omega) (by rw [hk, Int.add_zero, cnt_f hi.1 (show ¬ (((gA G 206 0 (i)) = 0 ∧ (gA G 207 0 (i)) = c) ∧ 0 < (gA G 210 0 (i)) ∧ ¬ go i) from fun z => by have z1 := z.1.1; have z2 := z.1.2; have z3 := z.2.1; have z4 := z.2.2; by_cases y : (gA G 247 0 (i)) = 0; omega; exact gyes y z4)]) (by rw [hd, Int.add_zero, cnt_f hi.1 (show ¬ (((gA G 206 0 (i)) = 0 ∧ (gA G 207 0 (i)) = c) ∧ (gA G 204 0 (i)) = 3) from fun z => by have z1 := z.1.1; have z2 := z.1.2; have z3 := z.2; omega)]) (by rw [hl, cnt_t hi.1 (show (((gA G 206 0 (i)) = 0 ∧ (gA G 207 0 (i)) = c) ∧ (gA G 204 0 (i)) = 3 ∧ ¬ go i) from ⟨⟨by omega, by omega⟩, by omega, gnot (by omega)⟩)]) (by omega)
                      · skip
                        refine pw_const r_12_lacksDoctor_94 ?_
                        refine pw_goto r_12_lacksDoctor_95 ?_
                        refine pw_iadd r_12_lacksDoctor_99 (by omega) ?_
                        refine pw_istore (ls' := [some (vR 12 (0)), some (vI (v)), some (vI (c)), some (vI ((s3 + 0))), some (vI ((s4 + 1))), some (vI (s5)), some (vI (i))]) r_12_lacksDoctor_100 rfl rfl ?_
                        refine pw_iload r_12_lacksDoctor_102 rfl ?_
                        refine pw_aload r_12_lacksDoctor_104 rfl ?_
                        refine pw_getR r_12_lacksDoctor_105 fs_12_6 (by decide) ?_
                        refine pw_iload r_12_lacksDoctor_108 rfl ?_
                        refine pw_iald r_12_lacksDoctor_110 sh204 (by omega) (by omega) ?_
                        refine pw_const r_12_lacksDoctor_111 ?_
                        refine pw_icmp_ne r_12_lacksDoctor_112 (fun h112 => ?_) (fun h112 => ?_)
                        · skip
                          refine pw_const r_12_lacksDoctor_129 ?_
                          refine pw_iadd r_12_lacksDoctor_130 (by omega) ?_
                          refine pw_istore (ls' := [some (vR 12 (0)), some (vI (v)), some (vI (c)), some (vI ((s3 + 0))), some (vI ((s4 + 1))), some (vI ((s5 + 0))), some (vI (i))]) r_12_lacksDoctor_131 rfl rfl ?_
                          refine pw_iinc (b := 0) (ls' := [some (vR 12 (0)), some (vI (v)), some (vI (c)), some (vI ((s3 + 0))), some (vI ((s4 + 1))), some (vI ((s5 + 0))), some (vI ((i + 1)))]) r_12_lacksDoctor_133 rfl rfl (by omega) rfl ?_
                          refine pw_goto r_12_lacksDoctor_136 ?_
                          exact ih23 ((i + 1)) ((s3 + 0)) ((s4 + 1)) ((s5 + 0)) (by first | assumption | omega) (by rw [hk, Int.add_zero, cnt_f hi.1 (show ¬ (((gA G 206 0 (i)) = 0 ∧ (gA G 207 0 (i)) = c) ∧ 0 < (gA G 210 0 (i)) ∧ ¬ go i) from fun z => by have z1 := z.1.1; have z2 := z.1.2; have z3 := z.2.1; have z4 := z.2.2; by_cases y : (gA G 247 0 (i)) = 0; omega; exact gyes y z4)]) (by rw [hd, cnt_t hi.1 (show (((gA G 206 0 (i)) = 0 ∧ (gA G 207 0 (i)) = c) ∧ (gA G 204 0 (i)) = 3) from ⟨⟨by omega, by omega⟩, by omega⟩)]) (by rw [hl, Int.add_zero, cnt_f hi.1 (show ¬ (((gA G 206 0 (i)) = 0 ∧ (gA G 207 0 (i)) = c) ∧ (gA G 204 0 (i)) = 3 ∧ ¬ go i) from fun z => by have z1 := z.1.1; have z2 := z.1.2; have z3 := z.2.1; have z4 := z.2.2; by_cases y : (gA G 247 0 (i)) = 0; omega; exact gyes y z4)]) (by omega)
                        · skip
                          refine pw_aload r_12_lacksDoctor_115 rfl ?_
                          refine pw_getR r_12_lacksDoctor_116 fs_12_67 (by decide) ?_
                          refine pw_iload r_12_lacksDoctor_119 rfl ?_
                          refine pw_zald r_12_lacksDoctor_121 sh247 (by omega) (by omega) ?_
                          refine pw_if_ne r_12_lacksDoctor_122 (fun h122 => ?_) (fun h122 => ?_)
                          · skip
                            refine pw_const r_12_lacksDoctor_129 ?_
                            refine pw_iadd r_12_lacksDoctor_130 (by omega) ?_
                            refine pw_istore (ls' := [some (vR 12 (0)), some (vI (v)), some (vI (c)), some (vI ((s3 + 0))), some (vI ((s4 + 1))), some (vI ((s5 + 0))), some (vI (i))]) r_12_lacksDoctor_131 rfl rfl ?_
                            refine pw_iinc (b := 0) (ls' := [some (vR 12 (0)), some (vI (v)), some (vI (c)), some (vI ((s3 + 0))), some (vI ((s4 + 1))), some (vI ((s5 + 0))), some (vI ((i + 1)))]) r_12_lacksDoctor_133 rfl rfl (by omega) rfl ?_
                            refine pw_goto r_12_lacksDoctor_136 ?_
                            exact ih23 ((i + 1)) ((s3 + 0)) ((s4 + 1)) ((s5 + 0)) (by first | assumption | omega) (by rw [hk, Int.add_zero, cnt_f hi.1 (show ¬ (((gA G 206 0 (i)) = 0 ∧ (gA G 207 0 (i)) = c) ∧ 0 < (gA G 210 0 (i)) ∧ ¬ go i) from fun z => by have z1 := z.1.1; have z2 := z.1.2; have z3 := z.2.1; have z4 := z.2.2; by_cases y : (gA G 247 0 (i)) = 0; omega; exact gyes y z4)]) (by rw [hd, cnt_t hi.1 (show (((gA G 206 0 (i)) = 0 ∧ (gA G 207 0 (i)) = c) ∧ (gA G 204 0 (i)) = 3) from ⟨⟨by omega, by omega⟩, by omega⟩)]) (by rw [hl, Int.add_zero, cnt_f hi.1 (show ¬ (((gA G 206 0 (i)) = 0 ∧ (gA G 207 0 (i)) = c) ∧ (gA G 204 0 (i)) = 3 ∧ ¬ go i) from fun z => by have z1 := z.1.1; have z2 := z.1.2; have z3 := z.2.1; have z4 := z.2.2; by_cases y : (gA G 247 0 (i)) = 0; omega; exact gyes y z4)]) (by omega)
                          · skip
                            refine pw_const r_12_lacksDoctor_125 ?_
                            refine pw_goto r_12_lacksDoctor_126 ?_
                            refine pw_iadd r_12_lacksDoctor_130 (by omega) ?_
                            refine pw_istore (ls' := [some (vR 12 (0)), some (vI (v)), some (vI (c)), some (vI ((s3 + 0))), some (vI ((s4 + 1))), some (vI ((s5 + 1))), some (vI (i))]) r_12_lacksDoctor_131 rfl rfl ?_
                            refine pw_iinc (b := 0) (ls' := [some (vR 12 (0)), some (vI (v)), some (vI (c)), some (vI ((s3 + 0))), some (vI ((s4 + 1))), some (vI ((s5 + 1))), some (vI ((i + 1)))]) r_12_lacksDoctor_133 rfl rfl (by omega) rfl ?_
                            refine pw_goto r_12_lacksDoctor_136 ?_
                            exact ih23 ((i + 1)) ((s3 + 0)) ((s4 + 1)) ((s5 + 1)) (by first | assumption | omega) (by rw [hk, Int.add_zero, cnt_f hi.1 (show ¬ (((gA G 206 0 (i)) = 0 ∧ (gA G 207 0 (i)) = c) ∧ 0 < (gA G 210 0 (i)) ∧ ¬ go i) from fun z => by have z1 := z.1.1; have z2 := z.1.2; have z3 := z.2.1; have z4 := z.2.2; by_cases y : (gA G 247 0 (i)) = 0; omega; exact gyes y z4)]) (by rw [hd, cnt_t hi.1 (show (((gA G 206 0 (i)) = 0 ∧ (gA G 207 0 (i)) = c) ∧ (gA G 204 0 (i)) = 3) from ⟨⟨by omega, by omega⟩, by omega⟩)]) (by rw [hl, cnt_t hi.1 (show (((gA G 206 0 (i)) = 0 ∧ (gA G 207 0 (i)) = c) ∧ (gA G 204 0 (i)) = 3 ∧ ¬ go i) from ⟨⟨by omega, by omega⟩, by omega, gnot (by omega)⟩)]) (by omega)
                    · skip
                      refine pw_const r_12_lacksDoctor_74 ?_
                      refine pw_goto r_12_lacksDoctor_75 ?_
                      refine pw_iadd r_12_lacksDoctor_79 (by omega) ?_
                      refine pw_istore (ls' := [some (vR 12 (0)), some (vI (v)), some (vI (c)), some (vI ((s3 + 1))), some (vI (s4)), some (vI (s5)), some (vI (i))]) r_12_lacksDoctor_80 rfl rfl ?_
                      refine pw_iload r_12_lacksDoctor_81 rfl ?_
                      refine pw_aload r_12_lacksDoctor_83 rfl ?_
                      refine pw_getR r_12_lacksDoctor_84 fs_12_6 (by decide) ?_
                      refine pw_iload r_12_lacksDoctor_87 rfl ?_
                      refine pw_iald r_12_lacksDoctor_89 sh204 (by omega) (by omega) ?_
                      refine pw_const r_12_lacksDoctor_90 ?_
                      refine pw_icmp_ne r_12_lacksDoctor_91 (fun h91 => ?_) (fun h91 => ?_)
                      · skip
                        refine pw_const r_12_lacksDoctor_98 ?_
                        refine pw_iadd r_12_lacksDoctor_99 (by omega) ?_
                        refine pw_istore (ls' := [some (vR 12 (0)), some (vI (v)), some (vI (c)), some (vI ((s3 + 1))), some (vI ((s4 + 0))), some (vI (s5)), some (vI (i))]) r_12_lacksDoctor_100 rfl rfl ?_
                        refine pw_iload r_12_lacksDoctor_102 rfl ?_
                        refine pw_aload r_12_lacksDoctor_104 rfl ?_
                        refine pw_getR r_12_lacksDoctor_105 fs_12_6 (by decide) ?_
                        refine pw_iload r_12_lacksDoctor_108 rfl ?_
                        refine pw_iald r_12_lacksDoctor_110 sh204 (by omega) (by omega) ?_
                        refine pw_const r_12_lacksDoctor_111 ?_
                        refine pw_icmp_ne r_12_lacksDoctor_112 (fun h112 => ?_) (fun h112 => ?_)
                        · skip
                          refine pw_const r_12_lacksDoctor_129 ?_
                          refine pw_iadd r_12_lacksDoctor_130 (by omega) ?_
                          refine pw_istore (ls' := [some (vR 12 (0)), some (vI (v)), some (vI (c)), some (vI ((s3 + 1))), some (vI ((s4 + 0))), some (vI ((s5 + 0))), some (vI (i))]) r_12_lacksDoctor_131 rfl rfl ?_
                          refine pw_iinc (b := 0) (ls' := [some (vR 12 (0)), some (vI (v)), some (vI (c)), some (vI ((s3 + 1))), some (vI ((s4 + 0))), some (vI ((s5 + 0))), some (vI ((i + 1)))]) r_12_lacksDoctor_133 rfl rfl (by omega) rfl ?_
                          refine pw_goto r_12_lacksDoctor_136 ?_
                          exact ih23 ((i + 1)) ((s3 + 1)) ((s4 + 0)) ((s5 + 0)) (by first | assumption | omega) (by rw [hk, cnt_t hi.1 (show (((gA G 206 0 (i)) = 0 ∧ (gA G 207 0 (i)) = c) ∧ 0 < (gA G 210 0 (i)) ∧ ¬ go i) from ⟨⟨by omega, by omega⟩, by omega, gnot (by omega)⟩)]) (by rw [hd, Int.add_zero, cnt_f hi.1 (show ¬ (((gA G 206 0 (i)) = 0 ∧ (gA G 207 0 (i)) = c) ∧ (gA G 204 0 (i)) = 3) from fun z => by have z1 := z.1.1; have z2 := z.1.2; have z3 := z.2; omega)]) (by rw [hl, Int.add_zero, cnt_f hi.1 (show ¬ (((gA G 206 0 (i)) = 0 ∧ (gA G 207 0 (i)) = c) ∧ (gA G 204 0 (i)) = 3 ∧ ¬ go i) from fun z => by have z1 := z.1.1; have z2 := z.1.2; have z3 := z.2.1; have z4 := z.2.2; by_cases y : (gA G 247 0 (i)) = 0; omega; exact gyes y z4)]) (by omega)
                        · skip
                          refine pw_aload r_12_lacksDoctor_115 rfl ?_
                          refine pw_getR r_12_lacksDoctor_116 fs_12_67 (by decide) ?_
                          refine pw_iload r_12_lacksDoctor_119 rfl ?_
                          refine pw_zald r_12_lacksDoctor_121 sh247 (by omega) (by omega) ?_
                          refine pw_if_ne r_12_lacksDoctor_122 (fun h122 => ?_) (fun h122 => ?_)
                          · skip
                            refine pw_const r_12_lacksDoctor_129 ?_
                            refine pw_iadd r_12_lacksDoctor_130 (by omega) ?_
                            refine pw_istore (ls' := [some (vR 12 (0)), some (vI (v)), some (vI (c)), some (vI ((s3 + 1))), some (vI ((s4 + 0))), some (vI ((s5 + 0))), some (vI (i))]) r_12_lacksDoctor_131 rfl rfl ?_
                            refine pw_iinc (b := 0) (ls' := [some (vR 12 (0)), some (vI (v)), some (vI (c)), some (vI ((s3 + 1))), some (vI ((s4 + 0))), some (vI ((s5 + 0))), some (vI ((i + 1)))]) r_12_lacksDoctor_133 rfl rfl (by omega) rfl ?_
                            refine pw_goto r_12_lacksDoctor_136 ?_
                            exact ih23 ((i + 1)) ((s3 + 1)) ((s4 + 0)) ((s5 + 0)) (by first | assumption | omega) (by rw [hk, cnt_t hi.1 (show (((gA G 206 0 (i)) = 0 ∧ (gA G 207 0 (i)) = c) ∧ 0 < (gA G 210 0 (i)) ∧ ¬ go i) from ⟨⟨by omega, by omega⟩, by omega, gnot (by omega)⟩)]) (by rw [hd, Int.add_zero, cnt_f hi.1 (show ¬ (((gA G 206 0 (i)) = 0 ∧ (gA G 207 0 (i)) = c) ∧ (gA G 204 0 (i)) = 3) from fun z => by have z1 := z.1.1; have z2 := z.1.2; have z3 := z.2; omega)]) (by rw [hl, Int.add_zero, cnt_f hi.1 (show ¬ (((gA G 206 0 (i)) = 0 ∧ (gA G 207 0 (i)) = c) ∧ (gA G 204 0 (i)) = 3 ∧ ¬ go i) from fun z => by have z1 := z.1.1; have z2 := z.1.2; have z3 := z.2.1; have z4 := z.2.2; by_cases y : (gA G 247 0 (i)) = 0; omega; exact gyes y z4)]) (by omega)
                          · skip
                            refine pw_const r_12_lacksDoctor_125 ?_
                            refine pw_goto r_12_lacksDoctor_126 ?_
                            refine pw_iadd r_12_lacksDoctor_130 (by omega) ?_
                            refine pw_istore (ls' := [some (vR 12 (0)), some (vI (v)), some (vI (c)), some (vI ((s3 + 1))), some (vI ((s4 + 0))), some (vI ((s5 + 1))), some (vI (i))]) r_12_lacksDoctor_131 rfl rfl ?_
                            refine pw_iinc (b := 0) (ls' := [some (vR 12 (0)), some (vI (v)), some (vI (c)), some (vI ((s3 + 1))), some (vI ((s4 + 0))), some (vI ((s5 + 1))), some (vI ((i + 1)))]) r_12_lacksDoctor_133 rfl rfl (by omega) rfl ?_
                            refine pw_goto r_12_lacksDoctor_136 ?_
                            exact ih23 ((i + 1)) ((s3 + 1)) ((s4 + 0)) ((s5 + 1)) (by first | assumption | omega) (by rw [hk, cnt_t hi.1 (show (((gA G 206 0 (i)) = 0 ∧ (gA G 207 0 (i)) = c) ∧ 0 < (gA G 210 0 (i)) ∧ ¬ go i) from ⟨⟨by omega, by omega⟩, by omega, gnot (by omega)⟩)]) (by rw [hd, Int.add_zero, cnt_f hi.1 (show ¬ (((gA G 206 0 (i)) = 0 ∧ (gA G 207 0 (i)) = c) ∧ (gA G 204 0 (i)) = 3) from fun z => by have z1 := z.1.1; have z2 := z.1.2; have z3 := z.2; omega)]) (by rw [hl, cnt_t hi.1 (show (((gA G 206 0 (i)) = 0 ∧ (gA G 207 0 (i)) = c) ∧ (gA G 204 0 (i)) = 3 ∧ ¬ go i) from ⟨⟨by omega, by omega⟩, by omega, gnot (by omega)⟩)]) (by omega)
                      · skip
                        refine pw_const r_12_lacksDoctor_94 ?_
                        refine pw_goto r_12_lacksDoctor_95 ?_
                        refine pw_iadd r_12_lacksDoctor_99 (by omega) ?_
                        refine pw_istore (ls' := [some (vR 12 (0)), some (vI (v)), some (vI (c)), some (vI ((s3 + 1))), some (vI ((s4 + 1))), some (vI (s5)), some (vI (i))]) r_12_lacksDoctor_100 rfl rfl ?_
                        refine pw_iload r_12_lacksDoctor_102 rfl ?_
                        refine pw_aload r_12_lacksDoctor_104 rfl ?_
                        refine pw_getR r_12_lacksDoctor_105 fs_12_6 (by decide) ?_
                        refine pw_iload r_12_lacksDoctor_108 rfl ?_
                        refine pw_iald r_12_lacksDoctor_110 sh204 (by omega) (by omega) ?_
                        refine pw_const r_12_lacksDoctor_111 ?_
                        refine pw_icmp_ne r_12_lacksDoctor_112 (fun h112 => ?_) (fun h112 => ?_)
                        · skip
                          refine pw_const r_12_lacksDoctor_129 ?_
                          refine pw_iadd r_12_lacksDoctor_130 (by omega) ?_
                          refine pw_istore (ls' := [some (vR 12 (0)), some (vI (v)), some (vI (c)), some (vI ((s3 + 1))), some (vI ((s4 + 1))), some (vI ((s5 + 0))), some (vI (i))]) r_12_lacksDoctor_131 rfl rfl ?_
                          refine pw_iinc (b := 0) (ls' := [some (vR 12 (0)), some (vI (v)), some (vI (c)), some (vI ((s3 + 1))), some (vI ((s4 + 1))), some (vI ((s5 + 0))), some (vI ((i + 1)))]) r_12_lacksDoctor_133 rfl rfl (by omega) rfl ?_
                          refine pw_goto r_12_lacksDoctor_136 ?_
                          exact ih23 ((i + 1)) ((s3 + 1)) ((s4 + 1)) ((s5 + 0)) (by first | assumption | omega) (by rw [hk, cnt_t hi.1 (show (((gA G 206 0 (i)) = 0 ∧ (gA G 207 0 (i)) = c) ∧ 0 < (gA G 210 0 (i)) ∧ ¬ go i) from ⟨⟨by omega, by omega⟩, by omega, gnot (by omega)⟩)]) (by rw [hd, cnt_t hi.1 (show (((gA G 206 0 (i)) = 0 ∧ (gA G 207 0 (i)) = c) ∧ (gA G 204 0 (i)) = 3) from ⟨⟨by omega, by omega⟩, by omega⟩)]) (by rw [hl, Int.add_zero, cnt_f hi.1 (show ¬ (((gA G 206 0 (i)) = 0 ∧ (gA G 207 0 (i)) = c) ∧ (gA G 204 0 (i)) = 3 ∧ ¬ go i) from fun z => by have z1 := z.1.1; have z2 := z.1.2; have z3 := z.2.1; have z4 := z.2.2; by_cases y : (gA G 247 0 (i)) = 0; omega; exact gyes y z4)]) (by omega)
                        · skip
                          refine pw_aload r_12_lacksDoctor_115 rfl ?_
                          refine pw_getR r_12_lacksDoctor_116 fs_12_67 (by decide) ?_
                          refine pw_iload r_12_lacksDoctor_119 rfl ?_
                          refine pw_zald r_12_lacksDoctor_121 sh247 (by omega) (by omega) ?_
                          refine pw_if_ne r_12_lacksDoctor_122 (fun h122 => ?_) (fun h122 => ?_)
                          · skip
                            refine pw_const r_12_lacksDoctor_129 ?_
                            refine pw_iadd r_12_lacksDoctor_130 (by omega) ?_
                            refine pw_istore (ls' := [some (vR 12 (0)), some (vI (v)), some (vI (c)), some (vI ((s3 + 1))), some (vI ((s4 + 1))), some (vI ((s5 + 0))), some (vI (i))]) r_12_lacksDoctor_131 rfl rfl ?_
                            refine pw_iinc (b := 0) (ls' := [some (vR 12 (0)), some (vI (v)), some (vI (c)), some (vI ((s3 + 1))), some (vI ((s4 + 1))), some (vI ((s5 + 0))), some (vI ((i + 1)))]) r_12_lacksDoctor_133 rfl rfl (by omega) rfl ?_
                            refine pw_goto r_12_lacksDoctor_136 ?_
                            exact ih23 ((i + 1)) ((s3 + 1)) ((s4 + 1)) ((s5 + 0)) (by first | assumption | omega) (by rw [hk, cnt_t hi.1 (show (((gA G 206 0 (i)) = 0 ∧ (gA G 207 0 (i)) = c) ∧ 0 < (gA G 210 0 (i)) ∧ ¬ go i) from ⟨⟨by omega, by omega⟩, by omega, gnot (by omega)⟩)]) (by rw [hd, cnt_t hi.1 (show (((gA G 206 0 (i)) = 0 ∧ (gA G 207 0 (i)) = c) ∧ (gA G 204 0 (i)) = 3) from ⟨⟨by omega, by omega⟩, by omega⟩)]) (by rw [hl, Int.add_zero, cnt_f hi.1 (show ¬ (((gA G 206 0 (i)) = 0 ∧ (gA G 207 0 (i)) = c) ∧ (gA G 204 0 (i)) = 3 ∧ ¬ go i) from fun z => by have z1 := z.1.1; have z2 := z.1.2; have z3 := z.2.1; have z4 := z.2.2; by_cases y : (gA G 247 0 (i)) = 0; omega; exact gyes y z4)]) (by omega)
                          · skip
                            refine pw_const r_12_lacksDoctor_125 ?_
                            refine pw_goto r_12_lacksDoctor_126 ?_
                            refine pw_iadd r_12_lacksDoctor_130 (by omega) ?_
                            refine pw_istore (ls' := [some (vR 12 (0)), some (vI (v)), some (vI (c)), some (vI ((s3 + 1))), some (vI ((s4 + 1))), some (vI ((s5 + 1))), some (vI (i))]) r_12_lacksDoctor_131 rfl rfl ?_
                            refine pw_iinc (b := 0) (ls' := [some (vR 12 (0)), some (vI (v)), some (vI (c)), some (vI ((s3 + 1))), some (vI ((s4 + 1))), some (vI ((s5 + 1))), some (vI ((i + 1)))]) r_12_lacksDoctor_133 rfl rfl (by omega) rfl ?_
                            refine pw_goto r_12_lacksDoctor_136 ?_
                            exact ih23 ((i + 1)) ((s3 + 1)) ((s4 + 1)) ((s5 + 1)) (by first | assumption | omega) (by rw [hk, cnt_t hi.1 (show (((gA G 206 0 (i)) = 0 ∧ (gA G 207 0 (i)) = c) ∧ 0 < (gA G 210 0 (i)) ∧ ¬ go i) from ⟨⟨by omega, by omega⟩, by omega, gnot (by omega)⟩)]) (by rw [hd, cnt_t hi.1 (show (((gA G 206 0 (i)) = 0 ∧ (gA G 207 0 (i)) = c) ∧ (gA G 204 0 (i)) = 3) from ⟨⟨by omega, by omega⟩, by omega⟩)]) (by rw [hl, cnt_t hi.1 (show (((gA G 206 0 (i)) = 0 ∧ (gA G 207 0 (i)) = c) ∧ (gA G 204 0 (i)) = 3 ∧ ¬ go i) from ⟨⟨by omega, by omega⟩, by omega, gnot (by omega)⟩)]) (by omega)
        exact L23 _ (0) (0) (0) (0) (by first | assumption | omega) (rfl) (rfl) (rfl) (Nat.lt_succ_self _)
  exact L4 _ (0) (0) (by first | assumption | omega) (Or.inr ⟨rfl, fun ⟨x, a, b, e⟩ => by omega⟩) (Nat.lt_succ_self _)

abbrev SSt : Type := (Int → Int) × (Int → Int) × Int × Int × (Int → Int) × (Int → Int)
section SAI
variable (FT : Int → Prop) (PP : Int → Int) (DY : Int → Int → Int) (tn : Int)
/-- a search of voyages: what is tried, the least, how many, the best -/
noncomputable def saiN : Nat → Int → Int → Int → Int → SSt → SSt
  | 0, _, _, _, _, s => s
  | k + 1, i, r, f, m, s => if s.2.2.1 ≤ m then s else if r = 0 then (s.1, s.2.1, m, i, cpF s.1 s.2.2.2.2.1 i, cpF s.2.1 s.2.2.2.2.2 i) else
      iterI (fun j s => @ite _ (1 ≤ j ∧ pAnd j r = j ∧ FT j) (Classical.propDecidable _) (saiN k (i + 1) (r - j) (DY f j + tn) (m + PP j * DY f j) (upA s.1 i j, upA s.2.1 i (DY f j), s.2.2)) s) (r + 1) s
noncomputable def saiS (k : Nat) (i r f m j : Int) (s : SSt) : SSt := @ite _ (1 ≤ j ∧ pAnd j r = j ∧ FT j) (Classical.propDecidable _) (saiN FT PP DY tn k (i + 1) (r - j) (DY f j + tn) (m + PP j * DY f j) (upA s.1 i j, upA s.2.1 i (DY f j), s.2.2)) s
end SAI
section SAJ
variable {FT : Int → Prop} {PP : Int → Int} {DY : Int → Int → Int} {tn : Int} {k : Nat} {i r f m j : Int} {s : SSt}
theorem sai_stop (h : s.2.2.1 ≤ m) : saiN FT PP DY tn (k + 1) i r f m s = s := by
  rw [saiN, if_pos h]
theorem sai_keep (h : m < s.2.2.1) (hr : r = 0) : saiN FT PP DY tn (k + 1) i r f m s = (s.1, s.2.1, m, i, cpF s.1 s.2.2.2.2.1 i, cpF s.2.1 s.2.2.2.2.2 i) := by
  rw [saiN, if_neg (by omega), if_pos hr]
theorem sai_loop (h : m < s.2.2.1) (hr : r ≠ 0) : saiN FT PP DY tn (k + 1) i r f m s = iterI (saiS FT PP DY tn k i r f m) (r + 1) s := by
  rw [saiN, if_neg (by omega), if_neg hr]
  rfl
theorem sai_t (h : 1 ≤ j ∧ pAnd j r = j ∧ FT j) : saiS FT PP DY tn k i r f m j s = saiN FT PP DY tn k (i + 1) (r - j) (DY f j + tn) (m + PP j * DY f j) (upA s.1 i j, upA s.2.1 i (DY f j), s.2.2) := if_pos h
theorem sai_f (h : ¬ (1 ≤ j ∧ pAnd j r = j ∧ FT j)) : saiS FT PP DY tn k i r f m j s = s := if_neg h
theorem sai_1 : iterI (saiS FT PP DY tn k i r f m) 1 s = s := by
  show iterI (saiS FT PP DY tn k i r f m) (0 + 1) s = s
  rw [iter_s _ (Int.le_refl 0), iter_0, sai_f (fun z => absurd z.1 (by decide))]
end SAJ
theorem sub_set {a b : Int} (ha : 0 ≤ a ∧ a < 64) (hb : 0 ≤ b ∧ b < 64) (h : pAnd a b = a) : pcF (b - a) + pcF a = pcF b ∧ pAnd b (pXor a (-1)) = b - a := by
  have key : ∀ x : Nat, x < 64 → ∀ y : Nat, y < 64 → pAnd x y = x → pcF ((y : Int) - x) + pcF x = pcF y ∧ pAnd y (pXor x (-1)) = (y : Int) - x := by decide +kernel
  have := key a.toNat (by omega) b.toNat (by omega)
  rw [Int.toNat_of_nonneg ha.1, Int.toNat_of_nonneg hb.1] at this
  exact this h
theorem and_not {a b : Int} (ha : 0 ≤ a ∧ a < 64) (hb : 0 ≤ b ∧ b < 64) : pAnd a (pXor b (-1)) = 0 ↔ pAnd a b = a := by
  have key : ∀ x : Nat, x < 64 → ∀ y : Nat, y < 64 → (pAnd x (pXor y (-1)) = 0 ↔ pAnd x y = x) := by decide +kernel
  have := key a.toNat (by omega) b.toNat (by omega)
  rwa [Int.toNat_of_nonneg ha.1, Int.toNat_of_nonneg hb.1] at this
theorem pc_pos {a : Int} (ha : 0 < a ∧ a < 64) : 1 ≤ pcF a := by
  have key : ∀ x : Nat, x < 64 → 0 < x → 1 ≤ pcF x := by decide +kernel
  have := key a.toNat (by omega) (by omega)
  rwa [Int.toNat_of_nonneg (by omega)] at this
theorem mulb {a b : Int} (ha : 0 ≤ a ∧ a ≤ 1188) (hb : 0 ≤ b ∧ b ≤ 1000) : 0 ≤ a * b ∧ a * b ≤ 1188000 := by
  have h1 := Int.mul_nonneg ha.1 hb.1
  have h2 := Int.mul_le_mul ha.2 hb.2 hb.1 (by decide : (0 : Int) ≤ 1188)
  omega
def unl (x : Int) : Int := if x = 1000000000 then -1 else x
def shpC (G : PH) (q : SSt) : PH := uA (uA (sF (sF (uA (uA G 72 0 q.1) 73 0 q.2.1) 7 0 13 (q.2.2.1)) 7 0 16 q.2.2.2.1) 74 0 q.2.2.2.2.1) 75 0 q.2.2.2.2.2
theorem shpC_ts (G : PH) (q : SSt) (i v : Int) : sA (shpC G q) 72 0 i v = shpC G (upA q.1 i v, q.2) := by
  unfold shpC
  rw [sA_uA_ne _ _ _ _ _ _ _ _ (by decide), sA_uA_ne _ _ _ _ _ _ _ _ (by decide), sA_sF, sA_sF, sA_uA_ne _ _ _ _ _ _ _ _ (by decide), sA_uA]
theorem shpC_td (G : PH) (q : SSt) (i v : Int) : sA (shpC G q) 73 0 i v = shpC G (q.1, upA q.2.1 i v, q.2.2) := by
  unfold shpC
  rw [sA_uA_ne _ _ _ _ _ _ _ _ (by decide), sA_uA_ne _ _ _ _ _ _ _ _ (by decide), sA_sF, sA_sF, sA_uA]
theorem shpC_shpC (G : PH) (p q : SSt) : shpC (shpC G p) q = shpC G q := by
  unfold shpC
  refine PH_ext (fun c r k => ?_) (fun c r i => ?_) (fun _ _ _ => rfl)
  · simp only [gF_sF, gF_uA]
    (repeat' split) <;> first | rfl | omega
  · simp only [gA_sF, gA_uA]
    (repeat' split) <;> first | rfl | omega
theorem shpC_kp (G : PH) (v n : Int) (f g : Int → Int) : shpC G (gA G 72 0, gA G 73 0, v, n, f, g) = uA (uA (sF (sF G 7 0 13 (v)) 7 0 16 n) 74 0 f) 75 0 g := by
  show uA (uA (sF (sF (uA (uA G 72 0 (gA G 72 0)) 73 0 (gA G 73 0)) 7 0 13 _) 7 0 16 n) 74 0 f) 75 0 g = _
  rw [uA_own, uA_own]
def shpM (G : PH) (q : SSt) : PH := uA (uA (sF (sF (uA (uA G 252 0 q.1) 253 0 q.2.1) 12 0 78 (unl q.2.2.1)) 12 0 77 q.2.2.2.1) 254 0 q.2.2.2.2.1) 255 0 q.2.2.2.2.2
theorem shpM_ts (G : PH) (q : SSt) (i v : Int) : sA (shpM G q) 252 0 i v = shpM G (upA q.1 i v, q.2) := by
  unfold shpM
  rw [sA_uA_ne _ _ _ _ _ _ _ _ (by decide), sA_uA_ne _ _ _ _ _ _ _ _ (by decide), sA_sF, sA_sF, sA_uA_ne _ _ _ _ _ _ _ _ (by decide), sA_uA]
theorem shpM_td (G : PH) (q : SSt) (i v : Int) : sA (shpM G q) 253 0 i v = shpM G (q.1, upA q.2.1 i v, q.2.2) := by
  unfold shpM
  rw [sA_uA_ne _ _ _ _ _ _ _ _ (by decide), sA_uA_ne _ _ _ _ _ _ _ _ (by decide), sA_sF, sA_sF, sA_uA]
theorem shpM_shpM (G : PH) (p q : SSt) : shpM (shpM G p) q = shpM G q := by
  unfold shpM
  refine PH_ext (fun c r k => ?_) (fun c r i => ?_) (fun _ _ _ => rfl)
  · simp only [gF_sF, gF_uA]
    (repeat' split) <;> first | rfl | omega
  · simp only [gA_sF, gA_uA]
    (repeat' split) <;> first | rfl | omega
theorem shpM_kp (G : PH) (v n : Int) (f g : Int → Int) : shpM G (gA G 252 0, gA G 253 0, v, n, f, g) = uA (uA (sF (sF G 12 0 78 (unl v)) 12 0 77 n) 254 0 f) 255 0 g := by
  show uA (uA (sF (sF (uA (uA G 252 0 (gA G 252 0)) 253 0 (gA G 253 0)) 12 0 78 _) 12 0 77 n) 254 0 f) 255 0 g = _
  rw [uA_own, uA_own]
def shqC (G : PH) : SSt := (gA G 72 0, gA G 73 0, gF G 7 0 13, gF G 7 0 16, gA G 74 0, gA G 75 0)
theorem shpC_self (G : PH) : shpC G (shqC G) = G := by
  unfold shqC
  rw [shpC_kp]
  exact (congrArg (fun z => uA (uA (sF z 7 0 16 (gF G 7 0 16)) 74 0 (gA G 74 0)) 75 0 (gA G 75 0)) (sF_self G 7 0 13)).trans ((congrArg (fun z => uA (uA z 74 0 (gA G 74 0)) 75 0 (gA G 75 0)) (sF_self G 7 0 16)).trans (by rw [uA_own, uA_own]))
theorem shqC_2 (G : PH) (q : SSt) (i v u : Int) : shqC (sA (sA (shpC G q) 72 0 i v) 73 0 i u) = (upA q.1 i v, upA q.2.1 i u, q.2.2) := by
  rw [shpC_ts, shpC_td]; rfl

theorem wd_f7_85 : Cond.fieldLink "NameRolls$Ship" 85 "NameRolls$Ship" "leastSum" "I" ∈ UW := UW2_at 130 (by decide +kernel) rfl
theorem wd_f7_34 : Cond.fieldLink "NameRolls$Ship" 34 "NameRolls$Ship" "trialSets" "[I" ∈ UW := UW2_at 128 (by decide +kernel) rfl
theorem wd_f7_37 : Cond.fieldLink "NameRolls$Ship" 37 "NameRolls$Ship" "trialDays" "[I" ∈ UW := UW2_at 129 (by decide +kernel) rfl
theorem wd_f7_24 : Cond.fieldLink "NameRolls$Ship" 24 "NameRolls$Ship" "fits" "[Z" ∈ UW := UW2_at 124 (by decide +kernel) rfl
theorem wd_m7_100 : Cond.methodLink "NameRolls$Ship" 100 M_X7_sailWith.1 ∈ UW := UW6_at 68 (by decide +kernel) rfl
theorem wd_s7_sailWith : Cond.selects M_X7_sailWith.1.cls M_X7_sailWith.1 M_X7_sailWith.1 ∈ UW := UWp_at 45 (by decide +kernel) rfl
theorem wd_f7_31 : Cond.fieldLink "NameRolls$Ship" 31 "NameRolls$Ship" "ready" "[I" ∈ UW := UW2_at 126 (by decide +kernel) rfl
theorem wd_m7_92 : Cond.methodLink "NameRolls$Ship" 92 Lib.Math.max.name ∈ UW := UW6_at 58 (by decide +kernel) rfl
theorem wd_f7_81 : Cond.fieldLink "NameRolls$Ship" 81 "NameRolls$Ship" "turnDays" "I" ∈ UW := UW2_at 127 (by decide +kernel) rfl
theorem wd_f7_28 : Cond.fieldLink "NameRolls$Ship" 28 "NameRolls$Ship" "people" "[I" ∈ UW := UW2_at 125 (by decide +kernel) rfl
theorem wd_m7_88 : Cond.methodLink "NameRolls$Ship" 88 M_X7_sailOn.1 ∈ UW := UW6_at 60 (by decide +kernel) rfl
theorem wd_s7_sailOn : Cond.selects M_X7_sailOn.1.cls M_X7_sailOn.1 M_X7_sailOn.1 ∈ UW := UWp_at 43 (by decide +kernel) rfl
theorem wd_m7_97 : Cond.methodLink "NameRolls$Ship" 97 M_X7_keepTrial.1 ∈ UW := UW6_at 64 (by decide +kernel) rfl
theorem wd_s7_keepTrial : Cond.selects M_X7_keepTrial.1.cls M_X7_keepTrial.1 M_X7_keepTrial.1 ∈ UW := UWp_at 44 (by decide +kernel) rfl
theorem r_7_keepTrial_0 : RA M_X7_keepTrial 0 0 1 := Or.inl ⟨0, by decide +kernel, rfl, rfl⟩
theorem r_7_keepTrial_1 : RL M_X7_keepTrial 1 2 2 := Or.inl ⟨2, by decide +kernel, rfl, rfl⟩
theorem r_7_keepTrial_2 : RP M_X7_keepTrial 2 7 13 5 := ⟨85, _, by decide +kernel, rfl, by decide, wd_f7_85, rfl, Or.inl rfl, rfl⟩
theorem r_7_keepTrial_5 : RA M_X7_keepTrial 5 0 6 := Or.inl ⟨0, by decide +kernel, rfl, rfl⟩
theorem r_7_keepTrial_6 : RL M_X7_keepTrial 6 1 7 := Or.inl ⟨1, by decide +kernel, rfl, rfl⟩
theorem r_7_keepTrial_7 : RP M_X7_keepTrial 7 7 16 10 := ⟨104, _, by decide +kernel, rfl, by decide, wd_f7_104, rfl, Or.inl rfl, rfl⟩
theorem r_7_keepTrial_10 : RC M_X7_keepTrial 10 0 11 := ⟨⟨by decide, by decide⟩, Or.inl ⟨by decide +kernel, rfl⟩⟩
theorem r_7_keepTrial_11 : RS M_X7_keepTrial 11 3 12 := ⟨by decide, Or.inl ⟨3, by decide +kernel, rfl, rfl⟩⟩
theorem r_7_keepTrial_12 : RL M_X7_keepTrial 12 3 13 := Or.inl ⟨3, by decide +kernel, rfl, rfl⟩
theorem r_7_keepTrial_13 : RL M_X7_keepTrial 13 1 14 := Or.inl ⟨1, by decide +kernel, rfl, rfl⟩
theorem r_7_keepTrial_14 : RB M_X7_keepTrial 14 (.if_icmp .ge) 53 17 := ⟨39, by decide +kernel, rfl, rfl⟩
theorem r_7_keepTrial_53 : RW M_X7_keepTrial 53 .return_ 54 1 := ⟨by decide +kernel, rfl⟩
theorem r_7_keepTrial_17 : RL M_X7_keepTrial 17 3 18 := Or.inl ⟨3, by decide +kernel, rfl, rfl⟩
theorem r_7_keepTrial_18 : RC M_X7_keepTrial 18 6 20 := ⟨⟨by decide, by decide⟩, Or.inr (Or.inl ⟨by decide +kernel, by decide, rfl⟩)⟩
theorem r_7_keepTrial_20 : RB M_X7_keepTrial 20 (.if_icmp .ge) 53 23 := ⟨33, by decide +kernel, rfl, rfl⟩
theorem r_7_keepTrial_23 : RA M_X7_keepTrial 23 0 24 := Or.inl ⟨0, by decide +kernel, rfl, rfl⟩
theorem r_7_keepTrial_24 : RG M_X7_keepTrial 24 7 14 27 := ⟨40, _, by decide +kernel, rfl, by decide, wd_f7_40, rfl, rfl⟩
theorem r_7_keepTrial_27 : RL M_X7_keepTrial 27 3 28 := Or.inl ⟨3, by decide +kernel, rfl, rfl⟩
theorem r_7_keepTrial_28 : RA M_X7_keepTrial 28 0 29 := Or.inl ⟨0, by decide +kernel, rfl, rfl⟩
theorem r_7_keepTrial_29 : RG M_X7_keepTrial 29 7 11 32 := ⟨34, _, by decide +kernel, rfl, by decide, wd_f7_34, rfl, rfl⟩
theorem r_7_keepTrial_32 : RL M_X7_keepTrial 32 3 33 := Or.inl ⟨3, by decide +kernel, rfl, rfl⟩
theorem r_7_keepTrial_33 : RW M_X7_keepTrial 33 .iaload 34 1 := ⟨by decide +kernel, rfl⟩
theorem r_7_keepTrial_34 : RW M_X7_keepTrial 34 .iastore 35 1 := ⟨by decide +kernel, rfl⟩
theorem r_7_keepTrial_35 : RA M_X7_keepTrial 35 0 36 := Or.inl ⟨0, by decide +kernel, rfl, rfl⟩
theorem r_7_keepTrial_36 : RG M_X7_keepTrial 36 7 15 39 := ⟨43, _, by decide +kernel, rfl, by decide, wd_f7_43, rfl, rfl⟩
theorem r_7_keepTrial_39 : RL M_X7_keepTrial 39 3 40 := Or.inl ⟨3, by decide +kernel, rfl, rfl⟩
theorem r_7_keepTrial_40 : RA M_X7_keepTrial 40 0 41 := Or.inl ⟨0, by decide +kernel, rfl, rfl⟩
theorem r_7_keepTrial_41 : RG M_X7_keepTrial 41 7 12 44 := ⟨37, _, by decide +kernel, rfl, by decide, wd_f7_37, rfl, rfl⟩
theorem r_7_keepTrial_44 : RL M_X7_keepTrial 44 3 45 := Or.inl ⟨3, by decide +kernel, rfl, rfl⟩
theorem r_7_keepTrial_45 : RW M_X7_keepTrial 45 .iaload 46 1 := ⟨by decide +kernel, rfl⟩
theorem r_7_keepTrial_46 : RW M_X7_keepTrial 46 .iastore 47 1 := ⟨by decide +kernel, rfl⟩
theorem r_7_keepTrial_47 : RI M_X7_keepTrial 47 3 1 50 := ⟨by decide, by decide +kernel, rfl⟩
theorem r_7_keepTrial_50 : RB M_X7_keepTrial 50 .goto 12 53 := ⟨(-38), by decide +kernel, rfl, rfl⟩
theorem r_7_sailOn_0 : RL M_X7_sailOn 0 4 2 := Or.inr ⟨by decide +kernel, rfl⟩
theorem r_7_sailOn_2 : RA M_X7_sailOn 2 0 3 := Or.inl ⟨0, by decide +kernel, rfl, rfl⟩
theorem r_7_sailOn_3 : RG M_X7_sailOn 3 7 13 6 := ⟨85, _, by decide +kernel, rfl, by decide, wd_f7_85, rfl, rfl⟩
theorem r_7_sailOn_6 : RB M_X7_sailOn 6 (.if_icmp .lt) 10 9 := ⟨4, by decide +kernel, rfl, rfl⟩
theorem r_7_sailOn_10 : RL M_X7_sailOn 10 2 11 := Or.inl ⟨2, by decide +kernel, rfl, rfl⟩
theorem r_7_sailOn_11 : RB M_X7_sailOn 11 (.ifCond .ne) 22 14 := ⟨11, by decide +kernel, rfl, rfl⟩
theorem r_7_sailOn_22 : RL M_X7_sailOn 22 1 23 := Or.inl ⟨1, by decide +kernel, rfl, rfl⟩
theorem r_7_sailOn_23 : RC M_X7_sailOn 23 6 25 := ⟨⟨by decide, by decide⟩, Or.inr (Or.inl ⟨by decide +kernel, by decide, rfl⟩)⟩
theorem r_7_sailOn_25 : RB M_X7_sailOn 25 (.if_icmp .lt) 29 28 := ⟨4, by decide +kernel, rfl, rfl⟩
theorem r_7_sailOn_29 : RC M_X7_sailOn 29 1 30 := ⟨⟨by decide, by decide⟩, Or.inl ⟨by decide +kernel, rfl⟩⟩
theorem r_7_sailOn_30 : RS M_X7_sailOn 30 5 32 := ⟨by decide, Or.inr ⟨by decide +kernel, rfl⟩⟩
theorem r_7_sailOn_32 : RL M_X7_sailOn 32 5 34 := Or.inr ⟨by decide +kernel, rfl⟩
theorem r_7_sailOn_34 : RL M_X7_sailOn 34 2 35 := Or.inl ⟨2, by decide +kernel, rfl, rfl⟩
theorem r_7_sailOn_35 : RB M_X7_sailOn 35 (.if_icmp .gt) 84 38 := ⟨49, by decide +kernel, rfl, rfl⟩
theorem r_7_sailOn_84 : RW M_X7_sailOn 84 .return_ 85 1 := ⟨by decide +kernel, rfl⟩
theorem r_7_sailOn_38 : RL M_X7_sailOn 38 5 40 := Or.inr ⟨by decide +kernel, rfl⟩
theorem r_7_sailOn_40 : RC M_X7_sailOn 40 64 42 := ⟨⟨by decide, by decide⟩, Or.inr (Or.inl ⟨by decide +kernel, by decide, rfl⟩)⟩
theorem r_7_sailOn_42 : RB M_X7_sailOn 42 (.if_icmp .ge) 84 45 := ⟨42, by decide +kernel, rfl, rfl⟩
theorem r_7_sailOn_45 : RL M_X7_sailOn 45 5 47 := Or.inr ⟨by decide +kernel, rfl⟩
theorem r_7_sailOn_47 : RL M_X7_sailOn 47 2 48 := Or.inl ⟨2, by decide +kernel, rfl, rfl⟩
theorem r_7_sailOn_48 : RW M_X7_sailOn 48 .iand 49 1 := ⟨by decide +kernel, rfl⟩
theorem r_7_sailOn_49 : RL M_X7_sailOn 49 5 51 := Or.inr ⟨by decide +kernel, rfl⟩
theorem r_7_sailOn_51 : RB M_X7_sailOn 51 (.if_icmp .ne) 78 54 := ⟨27, by decide +kernel, rfl, rfl⟩
theorem r_7_sailOn_78 : RI M_X7_sailOn 78 5 1 81 := ⟨by decide, by decide +kernel, rfl⟩
theorem r_7_sailOn_81 : RB M_X7_sailOn 81 .goto 32 84 := ⟨(-49), by decide +kernel, rfl, rfl⟩
theorem r_7_sailOn_54 : RA M_X7_sailOn 54 0 55 := Or.inl ⟨0, by decide +kernel, rfl, rfl⟩
theorem r_7_sailOn_55 : RG M_X7_sailOn 55 7 7 58 := ⟨24, _, by decide +kernel, rfl, by decide, wd_f7_24, rfl, rfl⟩
theorem r_7_sailOn_58 : RL M_X7_sailOn 58 5 60 := Or.inr ⟨by decide +kernel, rfl⟩
theorem r_7_sailOn_60 : RW M_X7_sailOn 60 .baload 61 1 := ⟨by decide +kernel, rfl⟩
theorem r_7_sailOn_61 : RB M_X7_sailOn 61 (.ifCond .eq) 78 64 := ⟨17, by decide +kernel, rfl, rfl⟩
theorem r_7_sailOn_64 : RA M_X7_sailOn 64 0 65 := Or.inl ⟨0, by decide +kernel, rfl, rfl⟩
theorem r_7_sailOn_65 : RL M_X7_sailOn 65 5 67 := Or.inr ⟨by decide +kernel, rfl⟩
theorem r_7_sailOn_67 : RL M_X7_sailOn 67 1 68 := Or.inl ⟨1, by decide +kernel, rfl, rfl⟩
theorem r_7_sailOn_68 : RL M_X7_sailOn 68 2 69 := Or.inl ⟨2, by decide +kernel, rfl, rfl⟩
theorem r_7_sailOn_69 : RL M_X7_sailOn 69 5 71 := Or.inr ⟨by decide +kernel, rfl⟩
theorem r_7_sailOn_71 : RW M_X7_sailOn 71 .isub 72 1 := ⟨by decide +kernel, rfl⟩
theorem r_7_sailOn_72 : RL M_X7_sailOn 72 3 73 := Or.inl ⟨3, by decide +kernel, rfl, rfl⟩
theorem r_7_sailOn_73 : RL M_X7_sailOn 73 4 75 := Or.inr ⟨by decide +kernel, rfl⟩
theorem r_7_sailOn_75 : RKv M_X7_sailOn M_X7_sailWith 75 5 7 78 := ⟨100, by decide +kernel, wd_m7_100, ok_M_X7_sailWith, wd_s7_sailWith, rfl⟩
theorem r_7_sailWith_0 : RL M_X7_sailWith 0 4 2 := Or.inr ⟨by decide +kernel, rfl⟩
theorem r_7_sailWith_2 : RA M_X7_sailWith 2 0 3 := Or.inl ⟨0, by decide +kernel, rfl, rfl⟩
theorem r_7_sailWith_3 : RG M_X7_sailWith 3 7 9 6 := ⟨31, _, by decide +kernel, rfl, by decide, wd_f7_31, rfl, rfl⟩
theorem r_7_sailWith_6 : RL M_X7_sailWith 6 1 7 := Or.inl ⟨1, by decide +kernel, rfl, rfl⟩
theorem r_7_sailWith_7 : RW M_X7_sailWith 7 .iaload 8 1 := ⟨by decide +kernel, rfl⟩
theorem r_7_sailWith_8 : RKm M_X7_sailWith 8 Lib.Math.max.name 11 := ⟨92, by decide +kernel, wd_m7_92, rfl⟩
theorem r_7_sailWith_11 : RS M_X7_sailWith 11 6 13 := ⟨by decide, Or.inr ⟨by decide +kernel, rfl⟩⟩
theorem r_7_sailWith_13 : RA M_X7_sailWith 13 0 14 := Or.inl ⟨0, by decide +kernel, rfl, rfl⟩
theorem r_7_sailWith_14 : RG M_X7_sailWith 14 7 11 17 := ⟨34, _, by decide +kernel, rfl, by decide, wd_f7_34, rfl, rfl⟩
theorem r_7_sailWith_17 : RL M_X7_sailWith 17 2 18 := Or.inl ⟨2, by decide +kernel, rfl, rfl⟩
theorem r_7_sailWith_18 : RL M_X7_sailWith 18 1 19 := Or.inl ⟨1, by decide +kernel, rfl, rfl⟩
theorem r_7_sailWith_19 : RW M_X7_sailWith 19 .iastore 20 1 := ⟨by decide +kernel, rfl⟩
theorem r_7_sailWith_20 : RA M_X7_sailWith 20 0 21 := Or.inl ⟨0, by decide +kernel, rfl, rfl⟩
theorem r_7_sailWith_21 : RG M_X7_sailWith 21 7 12 24 := ⟨37, _, by decide +kernel, rfl, by decide, wd_f7_37, rfl, rfl⟩
theorem r_7_sailWith_24 : RL M_X7_sailWith 24 2 25 := Or.inl ⟨2, by decide +kernel, rfl, rfl⟩
theorem r_7_sailWith_25 : RL M_X7_sailWith 25 6 27 := Or.inr ⟨by decide +kernel, rfl⟩
theorem r_7_sailWith_27 : RW M_X7_sailWith 27 .iastore 28 1 := ⟨by decide +kernel, rfl⟩
theorem r_7_sailWith_28 : RA M_X7_sailWith 28 0 29 := Or.inl ⟨0, by decide +kernel, rfl, rfl⟩
theorem r_7_sailWith_29 : RL M_X7_sailWith 29 2 30 := Or.inl ⟨2, by decide +kernel, rfl, rfl⟩
theorem r_7_sailWith_30 : RC M_X7_sailWith 30 1 31 := ⟨⟨by decide, by decide⟩, Or.inl ⟨by decide +kernel, rfl⟩⟩
theorem r_7_sailWith_31 : RW M_X7_sailWith 31 .iadd 32 1 := ⟨by decide +kernel, rfl⟩
theorem r_7_sailWith_32 : RL M_X7_sailWith 32 3 33 := Or.inl ⟨3, by decide +kernel, rfl, rfl⟩
theorem r_7_sailWith_33 : RL M_X7_sailWith 33 6 35 := Or.inr ⟨by decide +kernel, rfl⟩
theorem r_7_sailWith_35 : RA M_X7_sailWith 35 0 36 := Or.inl ⟨0, by decide +kernel, rfl, rfl⟩
theorem r_7_sailWith_36 : RG M_X7_sailWith 36 7 10 39 := ⟨81, _, by decide +kernel, rfl, by decide, wd_f7_81, rfl, rfl⟩
theorem r_7_sailWith_39 : RW M_X7_sailWith 39 .iadd 40 1 := ⟨by decide +kernel, rfl⟩
theorem r_7_sailWith_40 : RL M_X7_sailWith 40 5 42 := Or.inr ⟨by decide +kernel, rfl⟩
theorem r_7_sailWith_42 : RA M_X7_sailWith 42 0 43 := Or.inl ⟨0, by decide +kernel, rfl, rfl⟩
theorem r_7_sailWith_43 : RG M_X7_sailWith 43 7 8 46 := ⟨28, _, by decide +kernel, rfl, by decide, wd_f7_28, rfl, rfl⟩
theorem r_7_sailWith_46 : RL M_X7_sailWith 46 1 47 := Or.inl ⟨1, by decide +kernel, rfl, rfl⟩
theorem r_7_sailWith_47 : RW M_X7_sailWith 47 .iaload 48 1 := ⟨by decide +kernel, rfl⟩
theorem r_7_sailWith_48 : RL M_X7_sailWith 48 6 50 := Or.inr ⟨by decide +kernel, rfl⟩
theorem r_7_sailWith_50 : RW M_X7_sailWith 50 .imul 51 1 := ⟨by decide +kernel, rfl⟩
theorem r_7_sailWith_51 : RW M_X7_sailWith 51 .iadd 52 1 := ⟨by decide +kernel, rfl⟩
theorem r_7_sailWith_52 : RKv M_X7_sailWith M_X7_sailOn 52 4 7 55 := ⟨88, by decide +kernel, wd_m7_88, ok_M_X7_sailOn, wd_s7_sailOn, rfl⟩
theorem r_7_sailWith_55 : RW M_X7_sailWith 55 .return_ 56 1 := ⟨by decide +kernel, rfl⟩
theorem r_7_sailOn_28 : RW M_X7_sailOn 28 .return_ 29 1 := ⟨by decide +kernel, rfl⟩
theorem r_7_sailOn_14 : RA M_X7_sailOn 14 0 15 := Or.inl ⟨0, by decide +kernel, rfl, rfl⟩
theorem r_7_sailOn_15 : RL M_X7_sailOn 15 1 16 := Or.inl ⟨1, by decide +kernel, rfl, rfl⟩
theorem r_7_sailOn_16 : RL M_X7_sailOn 16 4 18 := Or.inr ⟨by decide +kernel, rfl⟩
theorem r_7_sailOn_18 : RKv M_X7_sailOn M_X7_keepTrial 18 2 7 21 := ⟨97, by decide +kernel, wd_m7_97, ok_M_X7_keepTrial, wd_s7_keepTrial, rfl⟩
theorem r_7_sailOn_21 : RW M_X7_sailOn 21 .return_ 22 1 := ⟨by decide +kernel, rfl⟩
theorem r_7_sailOn_9 : RW M_X7_sailOn 9 .return_ 10 1 := ⟨by decide +kernel, rfl⟩
set_option maxRecDepth 10000 in
theorem sp_X7_keepTrial {l : Launch} {w : Wo} {d : Nat} {G : PH} {P : Option PV → PH → Prop} {n m : Int} (hn : 0 ≤ n ∧ n ≤ 6) (hP : P none (uA (uA (sF (sF G 7 0 13 m) 7 0 16 n) 74 0 (cpF (gA G 72 0) (gA G 74 0) n)) 75 0 (cpF (gA G 73 0) (gA G 75 0) n))) : PW l w M_X7_keepTrial (d + 0) 0 [some (vR 7 (0)), some (vI (n)), some (vI (m)), none] [] G P := by
  refine pw_aload r_7_keepTrial_0 rfl ?_
  refine pw_iload r_7_keepTrial_1 rfl ?_
  refine pw_putI r_7_keepTrial_2 (by decide +kernel) fs_7_13 (by decide) ?_
  refine pw_aload r_7_keepTrial_5 rfl ?_
  refine pw_iload r_7_keepTrial_6 rfl ?_
  refine pw_putI r_7_keepTrial_7 (by decide +kernel) fs_7_16 (by decide) ?_
  refine pw_const r_7_keepTrial_10 ?_
  refine pw_istore (ls' := [some (vR 7 (0)), some (vI (n)), some (vI (m)), some (vI (0))]) r_7_keepTrial_11 rfl rfl ?_
  have L12 : ∀ (nF : Nat) (i : Int), (hi : 0 ≤ i ∧ i ≤ n) → (n - i).toNat < nF → PW l w M_X7_keepTrial (d + 0) 12 [some (vR 7 (0)), some (vI (n)), some (vI (m)), some (vI (i))] [] (uA (uA (sF (sF G 7 (0) 13 (m)) 7 (0) 16 (n)) 74 (0) (filF (fun _ => True) (gA G 72 0) (gA G 74 0) i)) 75 (0) (filF (fun _ => True) (gA G 73 0) (gA G 75 0) i)) P := by
    intro nF
    induction nF with
    | zero => intro _ _ hM; exact absurd hM (Nat.not_lt_zero _)
    | succ nF ih12 =>
      intro i hi hM12
      refine pw_iload r_7_keepTrial_12 rfl ?_
      refine pw_iload r_7_keepTrial_13 rfl ?_
      refine pw_icmp_ge r_7_keepTrial_14 (fun h14 => ?_) (fun h14 => ?_)
      · skip
        refine pw_vret r_7_keepTrial_53 rfl (Nat.le_refl _) ⟨rfl, ?_⟩
        rw [fil_cpF, fil_cpF, show i = n by omega]; exact hP
      · skip
        refine pw_iload r_7_keepTrial_17 rfl ?_
        refine pw_const r_7_keepTrial_18 ?_
        refine pw_icmp_ge r_7_keepTrial_20 (fun h20 => ?_) (fun h20 => ?_)
        · skip
          refine pw_vret r_7_keepTrial_53 rfl (Nat.le_refl _) ⟨rfl, ?_⟩
          rw [fil_cpF, fil_cpF, show i = n by omega]; exact hP
        · skip
          refine pw_aload r_7_keepTrial_23 rfl ?_
          refine pw_getR r_7_keepTrial_24 fs_7_14 (by decide) ?_
          refine pw_iload r_7_keepTrial_27 rfl ?_
          refine pw_aload r_7_keepTrial_28 rfl ?_
          refine pw_getR r_7_keepTrial_29 fs_7_11 (by decide) ?_
          refine pw_iload r_7_keepTrial_32 rfl ?_
          refine pw_ialdv (v := gA G 72 (0) (i)) r_7_keepTrial_33 sh72 (by omega) (by omega) (by first | rfl | simp [gF_sF, gF_sA, gF_uA, gF_sD, gA_sF, gA_sA, gA_uA, gA_sD, gD_sF, gD_sA, gD_uA, gD_sD]) ?_
          refine pw_iast r_7_keepTrial_34 sh74 (by omega) (by omega) ?_
          refine pw_aload r_7_keepTrial_35 rfl ?_
          refine pw_getR r_7_keepTrial_36 fs_7_15 (by decide) ?_
          refine pw_iload r_7_keepTrial_39 rfl ?_
          refine pw_aload r_7_keepTrial_40 rfl ?_
          refine pw_getR r_7_keepTrial_41 fs_7_12 (by decide) ?_
          refine pw_iload r_7_keepTrial_44 rfl ?_
          refine pw_ialdv (v := gA G 73 (0) (i)) r_7_keepTrial_45 sh73 (by omega) (by omega) (by first | rfl | simp [gF_sF, gF_sA, gF_uA, gF_sD, gA_sF, gA_sA, gA_uA, gA_sD, gD_sF, gD_sA, gD_uA, gD_sD]) ?_
          refine pw_iast r_7_keepTrial_46 sh75 (by omega) (by omega) ?_
          refine pw_iinc (b := 0) (ls' := [some (vR 7 (0)), some (vI (n)), some (vI (m)), some (vI ((i + 1)))]) r_7_keepTrial_47 rfl rfl (by omega) rfl ?_
          refine pw_goto r_7_keepTrial_50 ?_
          refine pw_eqG (G' := uA (uA (sF (sF G 7 (0) 13 (m)) 7 (0) 16 (n)) 74 (0) (filF (fun _ => True) (gA G 72 0) (gA G 74 0) (i + 1))) 75 (0) (filF (fun _ => True) (gA G 73 0) (gA G 75 0) (i + 1))) (by rw [sA_uA_ne _ _ _ _ _ _ _ _ (by decide), sA_uA, sA_uA, fil_s (q := fun _ => True) (v := gA G 72 0) hi.1 trivial rfl, fil_s (q := fun _ => True) (v := gA G 73 0) hi.1 trivial rfl]) ?_
          exact ih12 ((i + 1)) (by omega) (by omega)
  refine pw_eqG (G' := uA (uA (sF (sF G 7 (0) 13 (m)) 7 (0) 16 (n)) 74 (0) (filF (fun _ => True) (gA G 72 0) (gA G 74 0) 0)) 75 (0) (filF (fun _ => True) (gA G 73 0) (gA G 75 0) 0)) (by rw [fil_0, fil_0]; show _ = uA (uA (sF (sF G 7 0 13 m) 7 0 16 n) 74 0 (gA (sF (sF G 7 0 13 m) 7 0 16 n) 74 0)) 75 0 (gA (sF (sF G 7 0 13 m) 7 0 16 n) 75 0); rw [uA_own, uA_own]) ?_
  exact L12 _ (0) (by omega) (Nat.lt_succ_self _)
set_option maxRecDepth 10000 in
theorem sp_X7_sailOn {l : Launch} {w : Wo} : ∀ (n0 : Nat), ∀ {d : Nat} {G : PH} {P : Option PV → PH → Prop} {i r f m : Int} {FT : Int → Prop} {PP : Int → Int} {DY : Int → Int → Int} {tn : Int} , ((n0 : Int) + i = 7) → (0 ≤ (gF G 7 0 2) ∧ (gF G 7 0 2) ≤ 6) → (pShl 1 (gF G 7 0 2) ≤ 64) → (0 ≤ i ∧ i ≤ 6 ∧ i + pcF r ≤ 6) → (0 ≤ r ∧ r < pShl 1 (gF G 7 0 2)) → (0 ≤ (gF G 1 0 2)) → ((gF G 1 0 2) ≤ f ∧ f ≤ 762 + 30 * i) → (0 ≤ m ∧ m ≤ 1200000 * i) → ((gF G 7 0 10) = tn ∧ 1 ≤ tn ∧ tn ≤ 30) → (∀ x, 1 ≤ x → x < pShl 1 (gF G 7 0 2) → ((gA G 69 0 (x)) ≠ 0 ↔ FT x) ∧ ((gA G 70 0 (x)) = PP x ∧ 0 ≤ PP x ∧ PP x ≤ 1188) ∧ ∀ y, (gF G 1 0 2) ≤ y → y ≤ 942 → max y (gA G 71 0 (x)) = DY y x ∧ y ≤ DY y x ∧ DY y x ≤ max y 762) → (∀ q : SSt, q = saiN FT PP DY tn n0 i r f m (shqC G) → P none (shpC G q)) → PW l w M_X7_sailOn (d + 2 * n0 + 1) 0 [some (vR 7 (0)), some (vI (i)), some (vI (r)), some (vI (f)), some (vI (m)), none] [] G P := by
  intro n0
  induction n0 with
  | zero => intros; exfalso; omega
  | succ nR ihR =>
    intro d G P i r f m FT PP DY tn hM hto hsh hi hr hdy hf hm htn hTB hP
    rw [show d + 2 * (nR + 1) + 1 = d + 2 * nR + 3 by omega]
    refine pw_iload r_7_sailOn_0 rfl ?_
    refine pw_aload r_7_sailOn_2 rfl ?_
    refine pw_getI r_7_sailOn_3 fs_7_13 (by decide) ?_
    refine pw_icmp_lt r_7_sailOn_6 (fun h06 => ?_) (fun h06 => ?_)
    · skip
      refine pw_iload r_7_sailOn_10 rfl ?_
      refine pw_if_ne r_7_sailOn_11 (fun h11 => ?_) (fun h11 => ?_)
      · skip
        have hpp := pc_pos (a := r) (by omega)
        refine pw_iload r_7_sailOn_22 rfl ?_
        refine pw_const r_7_sailOn_23 ?_
        refine pw_icmp_lt r_7_sailOn_25 (fun h25 => ?_) (fun h25 => ?_)
        · skip
          refine pw_const r_7_sailOn_29 ?_
          refine pw_istore (ls' := [some (vR 7 (0)), some (vI (i)), some (vI (r)), some (vI (f)), some (vI (m)), some (vI (1))]) r_7_sailOn_30 rfl rfl ?_
          have L32 : ∀ (nF : Nat) (j : Int) (q : SSt), (hj : 1 ≤ j ∧ j ≤ r + 1) → (hs : q = iterI (saiS FT PP DY tn nR i r f m) j (shqC G)) → (r + 1 - j).toNat < nF → PW l w M_X7_sailOn (d + 2 * nR + 3) 32 [some (vR 7 (0)), some (vI (i)), some (vI (r)), some (vI (f)), some (vI (m)), some (vI (j))] [] (shpC G q) P := by
            intro nF
            induction nF with
            | zero => intro _ _ _ _ hM; exact absurd hM (Nat.not_lt_zero _)
            | succ nF ih32 =>
              intro j q hj hs hM32
              refine pw_iload r_7_sailOn_32 rfl ?_
              refine pw_iload r_7_sailOn_34 rfl ?_
              refine pw_icmp_gt r_7_sailOn_35 (fun h35 => ?_) (fun h35 => ?_)
              · skip
                refine pw_vret r_7_sailOn_84 rfl (Nat.le_refl _) ⟨rfl, ?_⟩
                have ei : j = r + 1 := by omega
                subst ei
                exact hP q (hs.trans (sai_loop (s := shqC G) (show m < (gF G 7 0 13) by omega) h11).symm)
              · skip
                refine pw_iload r_7_sailOn_38 rfl ?_
                refine pw_const r_7_sailOn_40 ?_
                refine pw_icmp_ge r_7_sailOn_42 (fun h42 => ?_) (fun h42 => ?_)
                · skip
                  refine pw_vret r_7_sailOn_84 rfl (Nat.le_refl _) ⟨rfl, ?_⟩
                  have ei : j = r + 1 := by omega
                  subst ei
                  exact hP q (hs.trans (sai_loop (s := shqC G) (show m < (gF G 7 0 13) by omega) h11).symm)
                · skip
                  refine pw_iload r_7_sailOn_45 rfl ?_
                  refine pw_iload r_7_sailOn_47 rfl ?_
                  refine pw_iand r_7_sailOn_48 ?_
                  refine pw_iload r_7_sailOn_49 rfl ?_
                  refine pw_icmp_ne r_7_sailOn_51 (fun h51 => ?_) (fun h51 => ?_)
                  · skip
                    refine pw_iinc (b := 0) (ls' := [some (vR 7 (0)), some (vI (i)), some (vI (r)), some (vI (f)), some (vI (m)), some (vI ((j + 1)))]) r_7_sailOn_78 rfl rfl (by omega) rfl ?_
                    refine pw_goto r_7_sailOn_81 ?_
                    exact ih32 ((j + 1)) (q) (by first | assumption | omega) (by rw [iter_s _ (by omega), ← hs]; first | exact (sai_f (fun z => h51 z.2.1)).symm | exact (sai_f (fun z => ht.1.mpr z.2.2 h61)).symm) (by omega)
                  · skip
                    have ht := hTB j hj.1 (by omega)
                    have ht2 := ht.2.2 f hf.1 (by omega)
                    have hm9 := mulb ht.2.1.2 (show 0 ≤ DY f j ∧ DY f j ≤ 1000 by omega)
                    have hss := sub_set (by omega) (by omega) h51
                    have hpj := pc_pos (a := j) (by omega)
                    refine pw_aload r_7_sailOn_54 rfl ?_
                    refine pw_getR r_7_sailOn_55 fs_7_7 (by decide) ?_
                    refine pw_iload r_7_sailOn_58 rfl ?_
                    refine pw_zaldv (v := gA G 69 (0) (j)) r_7_sailOn_60 sh69 (by omega) (by omega) (by first | rfl | simp [gF_sF, gF_sA, gF_uA, gF_sD, gA_sF, gA_sA, gA_uA, gA_sD, gD_sF, gD_sA, gD_uA, gD_sD]) ?_
                    refine pw_if_eq r_7_sailOn_61 (fun h61 => ?_) (fun h61 => ?_)
                    · skip
                      refine pw_iinc (b := 0) (ls' := [some (vR 7 (0)), some (vI (i)), some (vI (r)), some (vI (f)), some (vI (m)), some (vI ((j + 1)))]) r_7_sailOn_78 rfl rfl (by omega) rfl ?_
                      refine pw_goto r_7_sailOn_81 ?_
                      exact ih32 ((j + 1)) (q) (by first | assumption | omega) (by rw [iter_s _ (by omega), ← hs]; first | exact (sai_f (fun z => h51 z.2.1)).symm | exact (sai_f (fun z => ht.1.mpr z.2.2 h61)).symm) (by omega)
                    · skip
                      refine pw_aload r_7_sailOn_64 rfl ?_
                      refine pw_iload r_7_sailOn_65 rfl ?_
                      refine pw_iload r_7_sailOn_67 rfl ?_
                      refine pw_iload r_7_sailOn_68 rfl ?_
                      refine pw_iload r_7_sailOn_69 rfl ?_
                      refine pw_isub r_7_sailOn_71 (by omega) ?_
                      refine pw_iload r_7_sailOn_72 rfl ?_
                      refine pw_iload r_7_sailOn_73 rfl ?_
                      refine pw_callV (av := [vI (j), vI (i), vI ((r - j)), vI (f), vI (m)]) (st := []) (ls0 := [some (vR 7 (0)), some (vI (j)), some (vI (i)), some (vI ((r - j))), some (vI (f)), some (vI (m)), none]) r_7_sailOn_75 rfl rfl rfl (Nat.le_refl _) ?_
                      refine pw_iload r_7_sailWith_0 rfl ?_
                      refine pw_aload r_7_sailWith_2 rfl ?_
                      refine pw_getR r_7_sailWith_3 fs_7_9 (by decide) ?_
                      refine pw_iload r_7_sailWith_6 rfl ?_
                      refine pw_ialdv (v := gA G 71 (0) (j)) r_7_sailWith_7 sh71 (by omega) (by omega) (by first | rfl | simp [gF_sF, gF_sA, gF_uA, gF_sD, gA_sF, gA_sA, gA_uA, gA_sD, gD_sF, gD_sA, gD_uA, gD_sD]) ?_
                      refine pw_mmax r_7_sailWith_8 rfl (Nat.le_of_ble_eq_true rfl) (Nat.le_refl _) ?_
                      refine pw_top (b := DY f j) (ht2.1) ?_
                      refine pw_istore (ls' := [some (vR 7 (0)), some (vI (j)), some (vI (i)), some (vI ((r - j))), some (vI (f)), some (vI (m)), some (vI (DY f j))]) r_7_sailWith_11 rfl rfl ?_
                      refine pw_aload r_7_sailWith_13 rfl ?_
                      refine pw_getR r_7_sailWith_14 fs_7_11 (by decide) ?_
                      refine pw_iload r_7_sailWith_17 rfl ?_
                      refine pw_iload r_7_sailWith_18 rfl ?_
                      refine pw_iast r_7_sailWith_19 sh72 (by omega) (by omega) ?_
                      refine pw_aload r_7_sailWith_20 rfl ?_
                      refine pw_getR r_7_sailWith_21 fs_7_12 (by decide) ?_
                      refine pw_iload r_7_sailWith_24 rfl ?_
                      refine pw_iload r_7_sailWith_25 rfl ?_
                      refine pw_iast r_7_sailWith_27 sh73 (by omega) (by omega) ?_
                      refine pw_aload r_7_sailWith_28 rfl ?_
                      refine pw_iload r_7_sailWith_29 rfl ?_
                      refine pw_const r_7_sailWith_30 ?_
                      refine pw_iadd r_7_sailWith_31 (by omega) ?_
                      refine pw_iload r_7_sailWith_32 rfl ?_
                      refine pw_iload r_7_sailWith_33 rfl ?_
                      refine pw_aload r_7_sailWith_35 rfl ?_
                      refine pw_getIv (v := gF G 7 (0) 10) r_7_sailWith_36 fs_7_10 (by decide) (by first | rfl | simp [gF_sF, gF_sA, gF_uA, gF_sD, gA_sF, gA_sA, gA_uA, gA_sD, gD_sF, gD_sA, gD_uA, gD_sD]) ?_
                      refine pw_top (b := tn) (htn.1) ?_
                      refine pw_iadd r_7_sailWith_39 (by omega) ?_
                      refine pw_iload r_7_sailWith_40 rfl ?_
                      refine pw_aload r_7_sailWith_42 rfl ?_
                      refine pw_getR r_7_sailWith_43 fs_7_8 (by decide) ?_
                      refine pw_iload r_7_sailWith_46 rfl ?_
                      refine pw_ialdv (v := gA G 70 (0) (j)) r_7_sailWith_47 sh70 (by omega) (by omega) (by first | rfl | simp [gF_sF, gF_sA, gF_uA, gF_sD, gA_sF, gA_sA, gA_uA, gA_sD, gD_sF, gD_sA, gD_uA, gD_sD]) ?_
                      refine pw_top (b := PP j) (ht.2.1.1) ?_
                      refine pw_iload r_7_sailWith_48 rfl ?_
                      refine pw_imul r_7_sailWith_50 (by omega) ?_
                      refine pw_iadd r_7_sailWith_51 (by omega) ?_
                      refine pw_callV (av := [vI ((i + 1)), vI ((r - j)), vI (((DY f j) + tn)), vI ((m + ((PP j) * (DY f j))))]) (st := []) (ls0 := [some (vR 7 (0)), some (vI ((i + 1))), some (vI ((r - j))), some (vI (((DY f j) + tn))), some (vI ((m + ((PP j) * (DY f j))))), none]) r_7_sailWith_52 rfl rfl rfl (Nat.le_refl _) ?_
                      refine ihR (d := d) (FT := FT) (PP := PP) (DY := DY) (tn := tn) (by omega) (by exact hto) (by exact hsh) (by omega) (by show 0 ≤ r - j ∧ r - j < pShl 1 (gF G 7 0 2); omega) (by exact hdy) (by show (gF G 1 0 2) ≤ DY f j + tn ∧ _; omega) (by omega) (by exact htn) (by exact hTB) ?_
                      intro q1 hrec
                      rw [shqC_2] at hrec
                      refine pw_vret r_7_sailWith_55 rfl (Nat.le_refl _) ⟨rfl, ?_⟩
                      refine pw_iinc (b := 0) (ls' := [some (vR 7 (0)), some (vI (i)), some (vI (r)), some (vI (f)), some (vI (m)), some (vI ((j + 1)))]) r_7_sailOn_78 rfl rfl (by omega) rfl ?_
                      refine pw_goto r_7_sailOn_81 ?_
                      refine pw_eqG (G' := shpC G q1) (by rw [shpC_ts, shpC_td, shpC_shpC]) ?_
                      exact ih32 ((j + 1)) (q1) (by first | assumption | omega) (by rw [iter_s _ (by omega), ← hs, sai_t ⟨hj.1, h51, ht.1.mp h61⟩]; exact hrec) (by omega)
          refine pw_eqG (G' := shpC G (shqC G)) ((shpC_self G).symm) ?_
          exact L32 _ (1) ((shqC G)) (by first | assumption | omega) (sai_1.symm) (Nat.lt_succ_self _)
        · skip
          refine pw_vret r_7_sailOn_28 rfl (Nat.le_refl _) ⟨rfl, ?_⟩
          exfalso; omega
      · skip
        refine pw_aload r_7_sailOn_14 rfl ?_
        refine pw_iload r_7_sailOn_15 rfl ?_
        refine pw_iload r_7_sailOn_16 rfl ?_
        refine pw_callV (av := [vI (i), vI (m)]) (st := []) (ls0 := [some (vR 7 (0)), some (vI (i)), some (vI (m)), none]) r_7_sailOn_18 rfl rfl rfl (Nat.le_refl _) ?_
        refine sp_X7_keepTrial (by omega) ?_
        refine pw_vret r_7_sailOn_21 rfl (Nat.le_refl _) ⟨rfl, ?_⟩
        have hh := hP _ (sai_keep (s := shqC G) (show m < (gF G 7 0 13) by omega) h11).symm
        exact Eq.mp (congrArg (P none) (shpC_kp G m i _ _)) hh
    · skip
      refine pw_vret r_7_sailOn_9 rfl (Nat.le_refl _) ⟨rfl, ?_⟩
      have hh := hP (shqC G) (sai_stop (by show (gF G 7 0 13) ≤ m; omega)).symm
      rw [shpC_self] at hh
      exact hh

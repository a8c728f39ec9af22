def absI (a : Int) : Int := if 0 ≤ a then a else wr (-a)
theorem absI_id {a : Int} (h : -2147483648 < a ∧ a < 2147483648) : absI a = if 0 ≤ a then a else -a := by
  unfold absI
  split
  · rfl
  · rw [wr_id (by omega)]
def RKm (M : MI) (pc : Nat) (nm : MethodName) (pc' : Nat) : Prop := ∃ idx, decode M.2.1 pc = .ok (.invokestatic idx, 3) ∧ Cond.methodLink M.1.cls idx nm ∈ UW ∧ pc + 3 = pc'
theorem mth_min : Cond.static Lib.Math.min.name ∈ UW ∧ Cond.initialized "java/lang/Math" ∈ UW ∧ Cond.code Lib.Math.min.name Lib.Math.min.code 2 (some .int) ∈ UW := ⟨UW3_at 86 (by decide +kernel) rfl, UW1_at 13 (by decide +kernel) rfl, UW3_at 87 (by decide +kernel) rfl⟩
theorem mth_max : Cond.static Lib.Math.max.name ∈ UW ∧ Cond.initialized "java/lang/Math" ∈ UW ∧ Cond.code Lib.Math.max.name Lib.Math.max.code 2 (some .int) ∈ UW := ⟨UW4_at 174 (by decide +kernel) rfl, UW1_at 13 (by decide +kernel) rfl, UW4_at 175 (by decide +kernel) rfl⟩
theorem mth_abs : Cond.static Lib.Math.abs.name ∈ UW ∧ Cond.initialized "java/lang/Math" ∈ UW ∧ Cond.code Lib.Math.abs.name Lib.Math.abs.code 1 (some .int) ∈ UW := ⟨UW5_at 111 (by decide +kernel) rfl, UW1_at 13 (by decide +kernel) rfl, UW5_at 112 (by decide +kernel) rfl⟩
section MATHS
variable {l : Launch} {w : Wo} {M : MI} {d K k pc pc' : Nat} {ls : List (Option PV)} {st : List PV} {G : PH} {Φ : Wo → Option PV → PH → Prop}
theorem pw_mmin {a b : Int} (hd : RKm M pc Lib.Math.min.name pc') (hc : noJ st = true) (hc8 : st.length ≤ 8) (hk : k ≤ K) (K0 : PWg l w M (d + 1) K k pc' ls (vI (min a b) :: st) G Φ) : PWg l w M (d + 1) K k pc ls (vI b :: vI a :: st) G Φ := by
  obtain ⟨idx, hd, hlk, rfl⟩ := hd
  intro p e s m args below meth c H locs lsr hC hW hO hS hL
  have hb : iR b := hO.2.1 _ List.mem_cons_self
  have ha : iR a := hO.2.1 _ (List.mem_cons_of_mem _ List.mem_cons_self)
  have hts := hC.2.2.2.2.2.1
  have hok : iR (min a b) := by
    rcases Int.le_total a b with q | q
    · rw [Int.min_eq_left q]; exact ha
    · rw [Int.min_eq_right q]; exact hb
  have h := K0 p e s m args below meth c H locs lsr hC hW ⟨hO.1, mem2 hok hO.2.1, hO.2.2⟩ hS hL
  refine va_mmin hC.1 hC.2.1 (by rw [hC.2.2.2.1]; exact hL.1.symm) hC.2.2.2.2.1 (hts _ hlk) (hts _ mth_min.1) (hts _ mth_min.2.1) (hts _ mth_min.2.2) (by show 1 ≤ d + 1; omega) (rest := st.map (rvv w)) (by rw [noJ_sum w st hc]; show _ ≤ 48 * (d + 1); omega) hk (by show _ ≤ 12 * K; omega) hd ?_
  have e1 : (if Int32.ofInt b < Int32.ofInt a then Int32.ofInt b else Int32.ofInt a) = Int32.ofInt (min a b) := by
    by_cases q : b < a
    · rw [if_pos ((of_lt hb ha).mpr q), Int.min_eq_right (by omega)]
    · rw [if_neg (fun z => q ((of_lt hb ha).mp z)), Int.min_eq_left (by omega)]
  rw [e1]
  exact h
theorem pw_mmax {a b : Int} (hd : RKm M pc Lib.Math.max.name pc') (hc : noJ st = true) (hc8 : st.length ≤ 8) (hk : k ≤ K) (K0 : PWg l w M (d + 1) K k pc' ls (vI (max a b) :: st) G Φ) : PWg l w M (d + 1) K k pc ls (vI b :: vI a :: st) G Φ := by
  obtain ⟨idx, hd, hlk, rfl⟩ := hd
  intro p e s m args below meth c H locs lsr hC hW hO hS hL
  have hb : iR b := hO.2.1 _ List.mem_cons_self
  have ha : iR a := hO.2.1 _ (List.mem_cons_of_mem _ List.mem_cons_self)
  have hts := hC.2.2.2.2.2.1
  have hok : iR (max a b) := by
    rcases Int.le_total a b with q | q
    · rw [Int.max_eq_right q]; exact hb
    · rw [Int.max_eq_left q]; exact ha
  have h := K0 p e s m args below meth c H locs lsr hC hW ⟨hO.1, mem2 hok hO.2.1, hO.2.2⟩ hS hL
  refine va_mmax hC.1 hC.2.1 (by rw [hC.2.2.2.1]; exact hL.1.symm) hC.2.2.2.2.1 (hts _ hlk) (hts _ mth_max.1) (hts _ mth_max.2.1) (hts _ mth_max.2.2) (by show 1 ≤ d + 1; omega) (rest := st.map (rvv w)) (by rw [noJ_sum w st hc]; show _ ≤ 48 * (d + 1); omega) hk (by show _ ≤ 12 * K; omega) hd ?_
  have e1 : (if Int32.ofInt a < Int32.ofInt b then Int32.ofInt b else Int32.ofInt a) = Int32.ofInt (max a b) := by
    by_cases q : a < b
    · rw [if_pos ((of_lt ha hb).mpr q), Int.max_eq_right (by omega)]
    · rw [if_neg (fun z => q ((of_lt ha hb).mp z)), Int.max_eq_left (by omega)]
  rw [e1]
  exact h
theorem pw_mabs {a : Int} (hd : RKm M pc Lib.Math.abs.name pc') (hc : noJ st = true) (hc8 : st.length ≤ 8) (hk : k ≤ K) (K0 : PWg l w M (d + 1) K k pc' ls (vI (absI a) :: st) G Φ) : PWg l w M (d + 1) K k pc ls (vI a :: st) G Φ := by
  obtain ⟨idx, hd, hlk, rfl⟩ := hd
  intro p e s m args below meth c H locs lsr hC hW hO hS hL
  have ha : iR a := hO.2.1 _ List.mem_cons_self
  have hts := hC.2.2.2.2.2.1
  have hok : iR (absI a) := by
    unfold absI
    split
    · exact ha
    · exact wr_in _
  have h := K0 p e s m args below meth c H locs lsr hC hW ⟨hO.1, mem1 hok hO.2.1, hO.2.2⟩ hS hL
  refine va_mabs hC.1 hC.2.1 (by rw [hC.2.2.2.1]; exact hL.1.symm) hC.2.2.2.2.1 (hts _ hlk) (hts _ mth_abs.1) (hts _ mth_abs.2.1) (hts _ mth_abs.2.2) (by show 1 ≤ d + 1; omega) (rest := st.map (rvv w)) (by rw [noJ_sum w st hc]; show _ ≤ 48 * (d + 1); omega) hk (by show _ ≤ 12 * K; omega) hd ?_
  have e1 : (if 0 ≤ Int32.ofInt a then Int32.ofInt a else 0 - Int32.ofInt a) = Int32.ofInt (absI a) := by
    have e0 : (0 : Int32) = Int32.ofInt 0 := rfl
    rw [e0]
    unfold absI
    by_cases q : 0 ≤ a
    · rw [if_pos ((of_le iR_0 ha).mpr q), if_pos q]
    · rw [if_neg (fun z => q ((of_le iR_0 ha).mp z)), if_neg q, ofInt_wr, Int32.ofInt_neg]
      exact Int32.zero_sub (Int32.ofInt a)
  rw [e1]
  exact h
end MATHS
def M_J_bitCount : MI := (⟨"java/lang/Integer", "bitCount", "(I)I"⟩, prog_16_method_49_code, 1, (Option.some Jvm.ClassFile.FieldType.int))
theorem ok_M_J_bitCount : mokS M_J_bitCount 1 ∧ Cond.static M_J_bitCount.1 ∈ UW := ⟨⟨UW6_at 17 rfl rfl, UW1_at 21 (by decide +kernel) rfl, ⟨by decide, by decide, by decide +kernel⟩, by decide +kernel⟩, UW6_at 16 (by decide +kernel) rfl⟩
theorem wd_m11_279 : Cond.methodLink "NameRolls" 279 M_X11_within.1 ∈ UW := UW4_at 53 (by decide +kernel) rfl
theorem wd_m12_240 : Cond.methodLink "NameRollsModel" 240 M_X12_within.1 ∈ UW := UW8_at 163 (by decide +kernel) rfl
theorem wd_f12_244 : Cond.fieldLink "NameRollsModel" 244 "NameRollsModel" "camps" "I" ∈ UW := UW7_at 71 (by decide +kernel) rfl
theorem wd_m12_247 : Cond.methodLink "NameRollsModel" 247 M_X12_isCamp.1 ∈ UW := UW8_at 174 (by decide +kernel) rfl
theorem wd_s12_isCamp : Cond.selects M_X12_isCamp.1.cls M_X12_isCamp.1 M_X12_isCamp.1 ∈ UW := UWp_at 59 (by decide +kernel) rfl
theorem wd_f12_251 : Cond.fieldLink "NameRollsModel" 251 "NameRollsModel" "persons" "I" ∈ UW := UW7_at 85 (by decide +kernel) rfl
theorem wd_f2_28 : Cond.fieldLink "NameRolls$Land" 28 "NameRolls$Land" "camps" "I" ∈ UW := UW1_at 40 (by decide +kernel) rfl
theorem wd_m2_32 : Cond.methodLink "NameRolls$Land" 32 M_X2_isCamp.1 ∈ UW := UW3_at 81 (by decide +kernel) rfl
theorem wd_s2_isCamp : Cond.selects M_X2_isCamp.1.cls M_X2_isCamp.1 M_X2_isCamp.1 ∈ UW := UW3_at 83 (by decide +kernel) rfl
theorem r_11_within_0 : RL M_X11_within 0 0 1 := Or.inl ⟨0, by decide +kernel, rfl, rfl⟩
theorem r_11_within_1 : RL M_X11_within 1 1 2 := Or.inl ⟨1, by decide +kernel, rfl, rfl⟩
theorem r_11_within_2 : RB M_X11_within 2 (.if_icmp .lt) 14 5 := ⟨12, by decide +kernel, rfl, rfl⟩
theorem r_11_within_14 : RC M_X11_within 14 0 15 := ⟨⟨by decide, by decide⟩, Or.inl ⟨by decide +kernel, rfl⟩⟩
theorem r_11_within_15 : RW M_X11_within 15 .ireturn 16 1 := ⟨by decide +kernel, rfl⟩
theorem r_11_within_5 : RL M_X11_within 5 0 6 := Or.inl ⟨0, by decide +kernel, rfl, rfl⟩
theorem r_11_within_6 : RL M_X11_within 6 2 7 := Or.inl ⟨2, by decide +kernel, rfl, rfl⟩
theorem r_11_within_7 : RB M_X11_within 7 (.if_icmp .gt) 14 10 := ⟨7, by decide +kernel, rfl, rfl⟩
theorem r_11_within_10 : RC M_X11_within 10 1 11 := ⟨⟨by decide, by decide⟩, Or.inl ⟨by decide +kernel, rfl⟩⟩
theorem r_11_within_11 : RB M_X11_within 11 .goto 15 14 := ⟨4, by decide +kernel, rfl, rfl⟩
theorem r_11_isSide_0 : RL M_X11_isSide 0 0 1 := Or.inl ⟨0, by decide +kernel, rfl, rfl⟩
theorem r_11_isSide_1 : RB M_X11_isSide 1 (.ifCond .eq) 9 4 := ⟨8, by decide +kernel, rfl, rfl⟩
theorem r_11_isSide_9 : RC M_X11_isSide 9 1 10 := ⟨⟨by decide, by decide⟩, Or.inl ⟨by decide +kernel, rfl⟩⟩
theorem r_11_isSide_10 : RB M_X11_isSide 10 .goto 14 13 := ⟨4, by decide +kernel, rfl, rfl⟩
theorem r_11_isSide_14 : RW M_X11_isSide 14 .ireturn 15 1 := ⟨by decide +kernel, rfl⟩
theorem r_11_isSide_4 : RL M_X11_isSide 4 0 5 := Or.inl ⟨0, by decide +kernel, rfl, rfl⟩
theorem r_11_isSide_5 : RC M_X11_isSide 5 1 6 := ⟨⟨by decide, by decide⟩, Or.inl ⟨by decide +kernel, rfl⟩⟩
theorem r_11_isSide_6 : RB M_X11_isSide 6 (.if_icmp .ne) 13 9 := ⟨7, by decide +kernel, rfl, rfl⟩
theorem r_11_isSide_13 : RC M_X11_isSide 13 0 14 := ⟨⟨by decide, by decide⟩, Or.inl ⟨by decide +kernel, rfl⟩⟩
theorem r_11_isDay_0 : RL M_X11_isDay 0 0 1 := Or.inl ⟨0, by decide +kernel, rfl, rfl⟩
theorem r_11_isDay_1 : RC M_X11_isDay 1 0 2 := ⟨⟨by decide, by decide⟩, Or.inl ⟨by decide +kernel, rfl⟩⟩
theorem r_11_isDay_2 : RC M_X11_isDay 2 600 5 := ⟨⟨by decide, by decide⟩, Or.inr (Or.inr (Or.inl ⟨by decide +kernel, by decide, rfl⟩))⟩
theorem r_11_isDay_5 : RKs M_X11_isDay M_X11_within 5 3 8 := ⟨279, by decide +kernel, Or.inl wd_m11_279, ok_M_X11_within, rfl⟩
theorem r_11_isDay_8 : RW M_X11_isDay 8 .ireturn 9 1 := ⟨by decide +kernel, rfl⟩
theorem r_12_within_0 : RL M_X12_within 0 0 1 := Or.inl ⟨0, by decide +kernel, rfl, rfl⟩
theorem r_12_within_1 : RL M_X12_within 1 1 2 := Or.inl ⟨1, by decide +kernel, rfl, rfl⟩
theorem r_12_within_2 : RB M_X12_within 2 (.if_icmp .lt) 14 5 := ⟨12, by decide +kernel, rfl, rfl⟩
theorem r_12_within_14 : RC M_X12_within 14 0 15 := ⟨⟨by decide, by decide⟩, Or.inl ⟨by decide +kernel, rfl⟩⟩
theorem r_12_within_15 : RW M_X12_within 15 .ireturn 16 1 := ⟨by decide +kernel, rfl⟩
theorem r_12_within_5 : RL M_X12_within 5 0 6 := Or.inl ⟨0, by decide +kernel, rfl, rfl⟩
theorem r_12_within_6 : RL M_X12_within 6 2 7 := Or.inl ⟨2, by decide +kernel, rfl, rfl⟩
theorem r_12_within_7 : RB M_X12_within 7 (.if_icmp .gt) 14 10 := ⟨7, by decide +kernel, rfl, rfl⟩
theorem r_12_within_10 : RC M_X12_within 10 1 11 := ⟨⟨by decide, by decide⟩, Or.inl ⟨by decide +kernel, rfl⟩⟩
theorem r_12_within_11 : RB M_X12_within 11 .goto 15 14 := ⟨4, by decide +kernel, rfl, rfl⟩
theorem r_12_isSide_0 : RL M_X12_isSide 0 0 1 := Or.inl ⟨0, by decide +kernel, rfl, rfl⟩
theorem r_12_isSide_1 : RC M_X12_isSide 1 0 2 := ⟨⟨by decide, by decide⟩, Or.inl ⟨by decide +kernel, rfl⟩⟩
theorem r_12_isSide_2 : RC M_X12_isSide 2 1 3 := ⟨⟨by decide, by decide⟩, Or.inl ⟨by decide +kernel, rfl⟩⟩
theorem r_12_isSide_3 : RKs M_X12_isSide M_X12_within 3 3 6 := ⟨240, by decide +kernel, Or.inl wd_m12_240, ok_M_X12_within, rfl⟩
theorem r_12_isSide_6 : RW M_X12_isSide 6 .ireturn 7 1 := ⟨by decide +kernel, rfl⟩
theorem r_12_isDay_0 : RL M_X12_isDay 0 0 1 := Or.inl ⟨0, by decide +kernel, rfl, rfl⟩
theorem r_12_isDay_1 : RC M_X12_isDay 1 0 2 := ⟨⟨by decide, by decide⟩, Or.inl ⟨by decide +kernel, rfl⟩⟩
theorem r_12_isDay_2 : RC M_X12_isDay 2 600 5 := ⟨⟨by decide, by decide⟩, Or.inr (Or.inr (Or.inl ⟨by decide +kernel, by decide, rfl⟩))⟩
theorem r_12_isDay_5 : RKs M_X12_isDay M_X12_within 5 3 8 := ⟨240, by decide +kernel, Or.inl wd_m12_240, ok_M_X12_within, rfl⟩
theorem r_12_isDay_8 : RW M_X12_isDay 8 .ireturn 9 1 := ⟨by decide +kernel, rfl⟩
theorem r_12_isCamp_0 : RL M_X12_isCamp 0 1 1 := Or.inl ⟨1, by decide +kernel, rfl, rfl⟩
theorem r_12_isCamp_1 : RB M_X12_isCamp 1 (.ifCond .lt) 16 4 := ⟨15, by decide +kernel, rfl, rfl⟩
theorem r_12_isCamp_16 : RC M_X12_isCamp 16 0 17 := ⟨⟨by decide, by decide⟩, Or.inl ⟨by decide +kernel, rfl⟩⟩
theorem r_12_isCamp_17 : RW M_X12_isCamp 17 .ireturn 18 1 := ⟨by decide +kernel, rfl⟩
theorem r_12_isCamp_4 : RL M_X12_isCamp 4 1 5 := Or.inl ⟨1, by decide +kernel, rfl, rfl⟩
theorem r_12_isCamp_5 : RA M_X12_isCamp 5 0 6 := Or.inl ⟨0, by decide +kernel, rfl, rfl⟩
theorem r_12_isCamp_6 : RG M_X12_isCamp 6 12 3 9 := ⟨244, _, by decide +kernel, rfl, by decide, wd_f12_244, rfl, rfl⟩
theorem r_12_isCamp_9 : RB M_X12_isCamp 9 (.if_icmp .ge) 16 12 := ⟨7, by decide +kernel, rfl, rfl⟩
theorem r_12_isCamp_12 : RC M_X12_isCamp 12 1 13 := ⟨⟨by decide, by decide⟩, Or.inl ⟨by decide +kernel, rfl⟩⟩
theorem r_12_isCamp_13 : RB M_X12_isCamp 13 .goto 17 16 := ⟨4, by decide +kernel, rfl, rfl⟩
theorem r_12_isPoint_0 : RA M_X12_isPoint 0 0 1 := Or.inl ⟨0, by decide +kernel, rfl, rfl⟩
theorem r_12_isPoint_1 : RL M_X12_isPoint 1 1 2 := Or.inl ⟨1, by decide +kernel, rfl, rfl⟩
theorem r_12_isPoint_2 : RKv M_X12_isPoint M_X12_isCamp 2 1 12 5 := ⟨247, by decide +kernel, wd_m12_247, ok_M_X12_isCamp, wd_s12_isCamp, rfl⟩
theorem r_12_isPoint_5 : RB M_X12_isPoint 5 (.ifCond .ne) 20 8 := ⟨15, by decide +kernel, rfl, rfl⟩
theorem r_12_isPoint_20 : RC M_X12_isPoint 20 1 21 := ⟨⟨by decide, by decide⟩, Or.inl ⟨by decide +kernel, rfl⟩⟩
theorem r_12_isPoint_21 : RB M_X12_isPoint 21 .goto 25 24 := ⟨4, by decide +kernel, rfl, rfl⟩
theorem r_12_isPoint_25 : RW M_X12_isPoint 25 .ireturn 26 1 := ⟨by decide +kernel, rfl⟩
theorem r_12_isPoint_8 : RL M_X12_isPoint 8 1 9 := Or.inl ⟨1, by decide +kernel, rfl, rfl⟩
theorem r_12_isPoint_9 : RC M_X12_isPoint 9 16 11 := ⟨⟨by decide, by decide⟩, Or.inr (Or.inl ⟨by decide +kernel, by decide, rfl⟩)⟩
theorem r_12_isPoint_11 : RB M_X12_isPoint 11 (.if_icmp .eq) 20 14 := ⟨9, by decide +kernel, rfl, rfl⟩
theorem r_12_isPoint_14 : RL M_X12_isPoint 14 1 15 := Or.inl ⟨1, by decide +kernel, rfl, rfl⟩
theorem r_12_isPoint_15 : RC M_X12_isPoint 15 17 17 := ⟨⟨by decide, by decide⟩, Or.inr (Or.inl ⟨by decide +kernel, by decide, rfl⟩)⟩
theorem r_12_isPoint_17 : RB M_X12_isPoint 17 (.if_icmp .ne) 24 20 := ⟨7, by decide +kernel, rfl, rfl⟩
theorem r_12_isPoint_24 : RC M_X12_isPoint 24 0 25 := ⟨⟨by decide, by decide⟩, Or.inl ⟨by decide +kernel, rfl⟩⟩
theorem r_12_isPerson_0 : RL M_X12_isPerson 0 1 1 := Or.inl ⟨1, by decide +kernel, rfl, rfl⟩
theorem r_12_isPerson_1 : RB M_X12_isPerson 1 (.ifCond .lt) 16 4 := ⟨15, by decide +kernel, rfl, rfl⟩
theorem r_12_isPerson_16 : RC M_X12_isPerson 16 0 17 := ⟨⟨by decide, by decide⟩, Or.inl ⟨by decide +kernel, rfl⟩⟩
theorem r_12_isPerson_17 : RW M_X12_isPerson 17 .ireturn 18 1 := ⟨by decide +kernel, rfl⟩
theorem r_12_isPerson_4 : RL M_X12_isPerson 4 1 5 := Or.inl ⟨1, by decide +kernel, rfl, rfl⟩
theorem r_12_isPerson_5 : RA M_X12_isPerson 5 0 6 := Or.inl ⟨0, by decide +kernel, rfl, rfl⟩
theorem r_12_isPerson_6 : RG M_X12_isPerson 6 12 17 9 := ⟨251, _, by decide +kernel, rfl, by decide, wd_f12_251, rfl, rfl⟩
theorem r_12_isPerson_9 : RB M_X12_isPerson 9 (.if_icmp .ge) 16 12 := ⟨7, by decide +kernel, rfl, rfl⟩
theorem r_12_isPerson_12 : RC M_X12_isPerson 12 1 13 := ⟨⟨by decide, by decide⟩, Or.inl ⟨by decide +kernel, rfl⟩⟩
theorem r_12_isPerson_13 : RB M_X12_isPerson 13 .goto 17 16 := ⟨4, by decide +kernel, rfl, rfl⟩
theorem r_2_isCamp_0 : RL M_X2_isCamp 0 1 1 := Or.inl ⟨1, by decide +kernel, rfl, rfl⟩
theorem r_2_isCamp_1 : RB M_X2_isCamp 1 (.ifCond .lt) 22 4 := ⟨21, by decide +kernel, rfl, rfl⟩
theorem r_2_isCamp_22 : RC M_X2_isCamp 22 0 23 := ⟨⟨by decide, by decide⟩, Or.inl ⟨by decide +kernel, rfl⟩⟩
theorem r_2_isCamp_23 : RW M_X2_isCamp 23 .ireturn 24 1 := ⟨by decide +kernel, rfl⟩
theorem r_2_isCamp_4 : RL M_X2_isCamp 4 1 5 := Or.inl ⟨1, by decide +kernel, rfl, rfl⟩
theorem r_2_isCamp_5 : RA M_X2_isCamp 5 0 6 := Or.inl ⟨0, by decide +kernel, rfl, rfl⟩
theorem r_2_isCamp_6 : RG M_X2_isCamp 6 2 2 9 := ⟨28, _, by decide +kernel, rfl, by decide, wd_f2_28, rfl, rfl⟩
theorem r_2_isCamp_9 : RB M_X2_isCamp 9 (.if_icmp .ge) 22 12 := ⟨13, by decide +kernel, rfl, rfl⟩
theorem r_2_isCamp_12 : RL M_X2_isCamp 12 1 13 := Or.inl ⟨1, by decide +kernel, rfl, rfl⟩
theorem r_2_isCamp_13 : RC M_X2_isCamp 13 16 15 := ⟨⟨by decide, by decide⟩, Or.inr (Or.inl ⟨by decide +kernel, by decide, rfl⟩)⟩
theorem r_2_isCamp_15 : RB M_X2_isCamp 15 (.if_icmp .ge) 22 18 := ⟨7, by decide +kernel, rfl, rfl⟩
theorem r_2_isCamp_18 : RC M_X2_isCamp 18 1 19 := ⟨⟨by decide, by decide⟩, Or.inl ⟨by decide +kernel, rfl⟩⟩
theorem r_2_isCamp_19 : RB M_X2_isCamp 19 .goto 23 22 := ⟨4, by decide +kernel, rfl, rfl⟩
theorem r_2_isPoint_0 : RA M_X2_isPoint 0 0 1 := Or.inl ⟨0, by decide +kernel, rfl, rfl⟩
theorem r_2_isPoint_1 : RL M_X2_isPoint 1 1 2 := Or.inl ⟨1, by decide +kernel, rfl, rfl⟩
theorem r_2_isPoint_2 : RKv M_X2_isPoint M_X2_isCamp 2 1 2 5 := ⟨32, by decide +kernel, wd_m2_32, ok_M_X2_isCamp, wd_s2_isCamp, rfl⟩
theorem r_2_isPoint_5 : RB M_X2_isPoint 5 (.ifCond .ne) 20 8 := ⟨15, by decide +kernel, rfl, rfl⟩
theorem r_2_isPoint_20 : RC M_X2_isPoint 20 1 21 := ⟨⟨by decide, by decide⟩, Or.inl ⟨by decide +kernel, rfl⟩⟩
theorem r_2_isPoint_21 : RB M_X2_isPoint 21 .goto 25 24 := ⟨4, by decide +kernel, rfl, rfl⟩
theorem r_2_isPoint_25 : RW M_X2_isPoint 25 .ireturn 26 1 := ⟨by decide +kernel, rfl⟩
theorem r_2_isPoint_8 : RL M_X2_isPoint 8 1 9 := Or.inl ⟨1, by decide +kernel, rfl, rfl⟩
theorem r_2_isPoint_9 : RC M_X2_isPoint 9 16 11 := ⟨⟨by decide, by decide⟩, Or.inr (Or.inl ⟨by decide +kernel, by decide, rfl⟩)⟩
theorem r_2_isPoint_11 : RB M_X2_isPoint 11 (.if_icmp .eq) 20 14 := ⟨9, by decide +kernel, rfl, rfl⟩
theorem r_2_isPoint_14 : RL M_X2_isPoint 14 1 15 := Or.inl ⟨1, by decide +kernel, rfl, rfl⟩
theorem r_2_isPoint_15 : RC M_X2_isPoint 15 17 17 := ⟨⟨by decide, by decide⟩, Or.inr (Or.inl ⟨by decide +kernel, by decide, rfl⟩)⟩
theorem r_2_isPoint_17 : RB M_X2_isPoint 17 (.if_icmp .ne) 24 20 := ⟨7, by decide +kernel, rfl, rfl⟩
theorem r_2_isPoint_24 : RC M_X2_isPoint 24 0 25 := ⟨⟨by decide, by decide⟩, Or.inl ⟨by decide +kernel, rfl⟩⟩
set_option maxRecDepth 10000 in
theorem sp_X11_within {l : Launch} {w : Wo} {d : Nat} {G : PH} {P : Option PV → PH → Prop} {v lo hi : Int} (hP : P (some (vI (b2i (lo ≤ v ∧ v ≤ hi)))) G) : PW l w M_X11_within (d + 0) 0 [some (vI (v)), some (vI (lo)), some (vI (hi))] [] G P := by
  refine pw_iload r_11_within_0 rfl ?_
  refine pw_iload r_11_within_1 rfl ?_
  refine pw_icmp_lt r_11_within_2 (fun h02 => ?_) (fun h02 => ?_)
  · skip
    refine pw_const r_11_within_14 ?_
    refine pw_zret r_11_within_15 rfl (Or.inl rfl) (Nat.le_refl _) ⟨rfl, ?_⟩
    exact pe hP (by first | rfl | omega | exact (b2i_t (by omega)).symm | exact (b2i_f (by omega)).symm)
  · skip
    refine pw_iload r_11_within_5 rfl ?_
    refine pw_iload r_11_within_6 rfl ?_
    refine pw_icmp_gt r_11_within_7 (fun h07 => ?_) (fun h07 => ?_)
    · skip
      refine pw_const r_11_within_14 ?_
      refine pw_zret r_11_within_15 rfl (Or.inl rfl) (Nat.le_refl _) ⟨rfl, ?_⟩
      exact pe hP (by first | rfl | omega | exact (b2i_t (by omega)).symm | exact (b2i_f (by omega)).symm)
    · skip
      refine pw_const r_11_within_10 ?_
      refine pw_goto r_11_within_11 ?_
      refine pw_zret r_11_within_15 rfl (Or.inr rfl) (Nat.le_refl _) ⟨rfl, ?_⟩
      exact pe hP (by first | rfl | omega | exact (b2i_t (by omega)).symm | exact (b2i_f (by omega)).symm)
set_option maxRecDepth 10000 in
theorem sp_X11_isSide {l : Launch} {w : Wo} {d : Nat} {G : PH} {P : Option PV → PH → Prop} {v : Int} (hP : P (some (vI (b2i (0 ≤ v ∧ v ≤ 1)))) G) : PW l w M_X11_isSide (d + 0) 0 [some (vI (v))] [] G P := by
  refine pw_iload r_11_isSide_0 rfl ?_
  refine pw_if_eq r_11_isSide_1 (fun h01 => ?_) (fun h01 => ?_)
  · skip
    refine pw_const r_11_isSide_9 ?_
    refine pw_goto r_11_isSide_10 ?_
    refine pw_zret r_11_isSide_14 rfl (Or.inr rfl) (Nat.le_refl _) ⟨rfl, ?_⟩
    exact pe hP (by first | rfl | omega | exact (b2i_t (by omega)).symm | exact (b2i_f (by omega)).symm)
  · skip
    refine pw_iload r_11_isSide_4 rfl ?_
    refine pw_const r_11_isSide_5 ?_
    refine pw_icmp_ne r_11_isSide_6 (fun h06 => ?_) (fun h06 => ?_)
    · skip
      refine pw_const r_11_isSide_13 ?_
      refine pw_zret r_11_isSide_14 rfl (Or.inl rfl) (Nat.le_refl _) ⟨rfl, ?_⟩
      exact pe hP (by first | rfl | omega | exact (b2i_t (by omega)).symm | exact (b2i_f (by omega)).symm)
    · skip
      refine pw_const r_11_isSide_9 ?_
      refine pw_goto r_11_isSide_10 ?_
      refine pw_zret r_11_isSide_14 rfl (Or.inr rfl) (Nat.le_refl _) ⟨rfl, ?_⟩
      exact pe hP (by first | rfl | omega | exact (b2i_t (by omega)).symm | exact (b2i_f (by omega)).symm)
set_option maxRecDepth 10000 in
theorem sp_X11_isDay {l : Launch} {w : Wo} {d : Nat} {G : PH} {P : Option PV → PH → Prop} {v : Int} (hP : P (some (vI (b2i (0 ≤ v ∧ v ≤ 600)))) G) : PW l w M_X11_isDay (d + 1) 0 [some (vI (v))] [] G P := by
  refine pw_iload r_11_isDay_0 rfl ?_
  refine pw_const r_11_isDay_1 ?_
  refine pw_const r_11_isDay_2 ?_
  refine pw_callS (av := [vI (v), vI (0), vI (600)]) (st := []) (ls0 := [some (vI (v)), some (vI (0)), some (vI (600))]) r_11_isDay_5 rfl rfl rfl (Nat.le_refl _) ?_
  refine sp_X11_within  ?_
  refine pw_zret r_11_isDay_8 rfl (b2i_01 _) (Nat.le_refl _) ⟨rfl, ?_⟩
  exact pe hP (by first | rfl | omega | exact (b2i_t (by omega)).symm | exact (b2i_f (by omega)).symm)
set_option maxRecDepth 10000 in
theorem sp_X12_within {l : Launch} {w : Wo} {d : Nat} {G : PH} {P : Option PV → PH → Prop} {v lo hi : Int} (hP : P (some (vI (b2i (lo ≤ v ∧ v ≤ hi)))) G) : PW l w M_X12_within (d + 0) 0 [some (vI (v)), some (vI (lo)), some (vI (hi))] [] G P := by
  refine pw_iload r_12_within_0 rfl ?_
  refine pw_iload r_12_within_1 rfl ?_
  refine pw_icmp_lt r_12_within_2 (fun h02 => ?_) (fun h02 => ?_)
  · skip
    refine pw_const r_12_within_14 ?_
    refine pw_zret r_12_within_15 rfl (Or.inl rfl) (Nat.le_refl _) ⟨rfl, ?_⟩
    exact pe hP (by first | rfl | omega | exact (b2i_t (by omega)).symm | exact (b2i_f (by omega)).symm)
  · skip
    refine pw_iload r_12_within_5 rfl ?_
    refine pw_iload r_12_within_6 rfl ?_
    refine pw_icmp_gt r_12_within_7 (fun h07 => ?_) (fun h07 => ?_)
    · skip
      refine pw_const r_12_within_14 ?_
      refine pw_zret r_12_within_15 rfl (Or.inl rfl) (Nat.le_refl _) ⟨rfl, ?_⟩
      exact pe hP (by first | rfl | omega | exact (b2i_t (by omega)).symm | exact (b2i_f (by omega)).symm)
    · skip
      refine pw_const r_12_within_10 ?_
      refine pw_goto r_12_within_11 ?_
      refine pw_zret r_12_within_15 rfl (Or.inr rfl) (Nat.le_refl _) ⟨rfl, ?_⟩
      exact pe hP (by first | rfl | omega | exact (b2i_t (by omega)).symm | exact (b2i_f (by omega)).symm)
set_option maxRecDepth 10000 in
theorem sp_X12_isSide {l : Launch} {w : Wo} {d : Nat} {G : PH} {P : Option PV → PH → Prop} {v : Int} (hP : P (some (vI (b2i (0 ≤ v ∧ v ≤ 1)))) G) : PW l w M_X12_isSide (d + 1) 0 [some (vI (v))] [] G P := by
  refine pw_iload r_12_isSide_0 rfl ?_
  refine pw_const r_12_isSide_1 ?_
  refine pw_const r_12_isSide_2 ?_
  refine pw_callS (av := [vI (v), vI (0), vI (1)]) (st := []) (ls0 := [some (vI (v)), some (vI (0)), some (vI (1))]) r_12_isSide_3 rfl rfl rfl (Nat.le_refl _) ?_
  refine sp_X12_within  ?_
  refine pw_zret r_12_isSide_6 rfl (b2i_01 _) (Nat.le_refl _) ⟨rfl, ?_⟩
  exact pe hP (by first | rfl | omega | exact (b2i_t (by omega)).symm | exact (b2i_f (by omega)).symm)
set_option maxRecDepth 10000 in
theorem sp_X12_isDay {l : Launch} {w : Wo} {d : Nat} {G : PH} {P : Option PV → PH → Prop} {v : Int} (hP : P (some (vI (b2i (0 ≤ v ∧ v ≤ 600)))) G) : PW l w M_X12_isDay (d + 1) 0 [some (vI (v))] [] G P := by
  refine pw_iload r_12_isDay_0 rfl ?_
  refine pw_const r_12_isDay_1 ?_
  refine pw_const r_12_isDay_2 ?_
  refine pw_callS (av := [vI (v), vI (0), vI (600)]) (st := []) (ls0 := [some (vI (v)), some (vI (0)), some (vI (600))]) r_12_isDay_5 rfl rfl rfl (Nat.le_refl _) ?_
  refine sp_X12_within  ?_
  refine pw_zret r_12_isDay_8 rfl (b2i_01 _) (Nat.le_refl _) ⟨rfl, ?_⟩
  exact pe hP (by first | rfl | omega | exact (b2i_t (by omega)).symm | exact (b2i_f (by omega)).symm)
set_option maxRecDepth 10000 in
theorem sp_X12_isCamp {l : Launch} {w : Wo} {d : Nat} {G : PH} {P : Option PV → PH → Prop} {p : Int} (hP : P (some (vI (b2i (0 ≤ p ∧ p < (gF G 12 0 3))))) G) : PW l w M_X12_isCamp (d + 0) 0 [some (vR 12 (0)), some (vI (p))] [] G P := by
  refine pw_iload r_12_isCamp_0 rfl ?_
  refine pw_if_lt r_12_isCamp_1 (fun h01 => ?_) (fun h01 => ?_)
  · skip
    refine pw_const r_12_isCamp_16 ?_
    refine pw_zret r_12_isCamp_17 rfl (Or.inl rfl) (Nat.le_refl _) ⟨rfl, ?_⟩
    exact pe hP (by first | rfl | omega | exact (b2i_t (by omega)).symm | exact (b2i_f (by omega)).symm)
  · skip
    refine pw_iload r_12_isCamp_4 rfl ?_
    refine pw_aload r_12_isCamp_5 rfl ?_
    refine pw_getI r_12_isCamp_6 fs_12_3 (by decide) ?_
    refine pw_icmp_ge r_12_isCamp_9 (fun h09 => ?_) (fun h09 => ?_)
    · skip
      refine pw_const r_12_isCamp_16 ?_
      refine pw_zret r_12_isCamp_17 rfl (Or.inl rfl) (Nat.le_refl _) ⟨rfl, ?_⟩
      exact pe hP (by first | rfl | omega | exact (b2i_t (by omega)).symm | exact (b2i_f (by omega)).symm)
    · skip
      refine pw_const r_12_isCamp_12 ?_
      refine pw_goto r_12_isCamp_13 ?_
      refine pw_zret r_12_isCamp_17 rfl (Or.inr rfl) (Nat.le_refl _) ⟨rfl, ?_⟩
      exact pe hP (by first | rfl | omega | exact (b2i_t (by omega)).symm | exact (b2i_f (by omega)).symm)
set_option maxRecDepth 10000 in
theorem sp_X12_isPoint {l : Launch} {w : Wo} {d : Nat} {G : PH} {P : Option PV → PH → Prop} {p : Int} (hP : P (some (vI (b2i ((0 ≤ p ∧ p < (gF G 12 0 3)) ∨ p = 16 ∨ p = 17)))) G) : PW l w M_X12_isPoint (d + 1) 0 [some (vR 12 (0)), some (vI (p))] [] G P := by
  refine pw_aload r_12_isPoint_0 rfl ?_
  refine pw_iload r_12_isPoint_1 rfl ?_
  refine pw_callV (av := [vI (p)]) (st := []) (ls0 := [some (vR 12 (0)), some (vI (p))]) r_12_isPoint_2 rfl rfl rfl (Nat.le_refl _) ?_
  refine sp_X12_isCamp  ?_
  refine pw_if_neB r_12_isPoint_5 (fun h05 => ?_) (fun h05 => ?_)
  · skip
    refine pw_const r_12_isPoint_20 ?_
    refine pw_goto r_12_isPoint_21 ?_
    refine pw_zret r_12_isPoint_25 rfl (Or.inr rfl) (Nat.le_refl _) ⟨rfl, ?_⟩
    exact pe hP (by first | rfl | omega | exact (b2i_t (by omega)).symm | exact (b2i_f (by omega)).symm)
  · skip
    refine pw_iload r_12_isPoint_8 rfl ?_
    refine pw_const r_12_isPoint_9 ?_
    refine pw_icmp_eq r_12_isPoint_11 (fun h11 => ?_) (fun h11 => ?_)
    · skip
      refine pw_const r_12_isPoint_20 ?_
      refine pw_goto r_12_isPoint_21 ?_
      refine pw_zret r_12_isPoint_25 rfl (Or.inr rfl) (Nat.le_refl _) ⟨rfl, ?_⟩
      exact pe hP (by first | rfl | omega | exact (b2i_t (by omega)).symm | exact (b2i_f (by omega)).symm)
    · skip
      refine pw_iload r_12_isPoint_14 rfl ?_
      refine pw_const r_12_isPoint_15 ?_
      refine pw_icmp_ne r_12_isPoint_17 (fun h17 => ?_) (fun h17 => ?_)
      · skip
        refine pw_const r_12_isPoint_24 ?_
        refine pw_zret r_12_isPoint_25 rfl (Or.inl rfl) (Nat.le_refl _) ⟨rfl, ?_⟩
        exact pe hP (by first | rfl | omega | exact (b2i_t (by omega)).symm | exact (b2i_f (by omega)).symm)
      · skip
        refine pw_const r_12_isPoint_20 ?_
        refine pw_goto r_12_isPoint_21 ?_
        refine pw_zret r_12_isPoint_25 rfl (Or.inr rfl) (Nat.le_refl _) ⟨rfl, ?_⟩
        exact pe hP (by first | rfl | omega | exact (b2i_t (by omega)).symm | exact (b2i_f (by omega)).symm)
set_option maxRecDepth 10000 in
theorem sp_X12_isPerson {l : Launch} {w : Wo} {d : Nat} {G : PH} {P : Option PV → PH → Prop} {p : Int} (hP : P (some (vI (b2i (0 ≤ p ∧ p < (gF G 12 0 17))))) G) : PW l w M_X12_isPerson (d + 0) 0 [some (vR 12 (0)), some (vI (p))] [] G P := by
  refine pw_iload r_12_isPerson_0 rfl ?_
  refine pw_if_lt r_12_isPerson_1 (fun h01 => ?_) (fun h01 => ?_)
  · skip
    refine pw_const r_12_isPerson_16 ?_
    refine pw_zret r_12_isPerson_17 rfl (Or.inl rfl) (Nat.le_refl _) ⟨rfl, ?_⟩
    exact pe hP (by first | rfl | omega | exact (b2i_t (by omega)).symm | exact (b2i_f (by omega)).symm)
  · skip
    refine pw_iload r_12_isPerson_4 rfl ?_
    refine pw_aload r_12_isPerson_5 rfl ?_
    refine pw_getI r_12_isPerson_6 fs_12_17 (by decide) ?_
    refine pw_icmp_ge r_12_isPerson_9 (fun h09 => ?_) (fun h09 => ?_)
    · skip
      refine pw_const r_12_isPerson_16 ?_
      refine pw_zret r_12_isPerson_17 rfl (Or.inl rfl) (Nat.le_refl _) ⟨rfl, ?_⟩
      exact pe hP (by first | rfl | omega | exact (b2i_t (by omega)).symm | exact (b2i_f (by omega)).symm)
    · skip
      refine pw_const r_12_isPerson_12 ?_
      refine pw_goto r_12_isPerson_13 ?_
      refine pw_zret r_12_isPerson_17 rfl (Or.inr rfl) (Nat.le_refl _) ⟨rfl, ?_⟩
      exact pe hP (by first | rfl | omega | exact (b2i_t (by omega)).symm | exact (b2i_f (by omega)).symm)
set_option maxRecDepth 10000 in
theorem sp_X2_isCamp {l : Launch} {w : Wo} {d : Nat} {G : PH} {P : Option PV → PH → Prop} {p : Int} (hc : 0 ≤ (gF G 2 0 2) ∧ (gF G 2 0 2) ≤ 16) (hP : P (some (vI (b2i (0 ≤ p ∧ p < (gF G 2 0 2))))) G) : PW l w M_X2_isCamp (d + 0) 0 [some (vR 2 (0)), some (vI (p))] [] G P := by
  refine pw_iload r_2_isCamp_0 rfl ?_
  refine pw_if_lt r_2_isCamp_1 (fun h01 => ?_) (fun h01 => ?_)
  · skip
    refine pw_const r_2_isCamp_22 ?_
    refine pw_zret r_2_isCamp_23 rfl (Or.inl rfl) (Nat.le_refl _) ⟨rfl, ?_⟩
    exact pe hP (by first | rfl | omega | exact (b2i_t (by omega)).symm | exact (b2i_f (by omega)).symm)
  · skip
    refine pw_iload r_2_isCamp_4 rfl ?_
    refine pw_aload r_2_isCamp_5 rfl ?_
    refine pw_getI r_2_isCamp_6 fs_2_2 (by decide) ?_
    refine pw_icmp_ge r_2_isCamp_9 (fun h09 => ?_) (fun h09 => ?_)
    · skip
      refine pw_const r_2_isCamp_22 ?_
      refine pw_zret r_2_isCamp_23 rfl (Or.inl rfl) (Nat.le_refl _) ⟨rfl, ?_⟩
      exact pe hP (by first | rfl | omega | exact (b2i_t (by omega)).symm | exact (b2i_f (by omega)).symm)
    · skip
      refine pw_iload r_2_isCamp_12 rfl ?_
      refine pw_const r_2_isCamp_13 ?_
      refine pw_icmp_ge r_2_isCamp_15 (fun h15 => ?_) (fun h15 => ?_)
      · skip
        refine pw_const r_2_isCamp_22 ?_
        refine pw_zret r_2_isCamp_23 rfl (Or.inl rfl) (Nat.le_refl _) ⟨rfl, ?_⟩
        exact pe hP (by first | rfl | omega | exact (b2i_t (by omega)).symm | exact (b2i_f (by omega)).symm)
      · skip
        refine pw_const r_2_isCamp_18 ?_
        refine pw_goto r_2_isCamp_19 ?_
        refine pw_zret r_2_isCamp_23 rfl (Or.inr rfl) (Nat.le_refl _) ⟨rfl, ?_⟩
        exact pe hP (by first | rfl | omega | exact (b2i_t (by omega)).symm | exact (b2i_f (by omega)).symm)
set_option maxRecDepth 10000 in
theorem sp_X2_isPoint {l : Launch} {w : Wo} {d : Nat} {G : PH} {P : Option PV → PH → Prop} {p : Int} (hc : 0 ≤ (gF G 2 0 2) ∧ (gF G 2 0 2) ≤ 16) (hP : P (some (vI (b2i ((0 ≤ p ∧ p < (gF G 2 0 2)) ∨ p = 16 ∨ p = 17)))) G) : PW l w M_X2_isPoint (d + 1) 0 [some (vR 2 (0)), some (vI (p))] [] G P := by
  refine pw_aload r_2_isPoint_0 rfl ?_
  refine pw_iload r_2_isPoint_1 rfl ?_
  refine pw_callV (av := [vI (p)]) (st := []) (ls0 := [some (vR 2 (0)), some (vI (p))]) r_2_isPoint_2 rfl rfl rfl (Nat.le_refl _) ?_
  refine sp_X2_isCamp (by first | assumption | exact hc | omega) ?_
  refine pw_if_neB r_2_isPoint_5 (fun h05 => ?_) (fun h05 => ?_)
  · skip
    refine pw_const r_2_isPoint_20 ?_
    refine pw_goto r_2_isPoint_21 ?_
    refine pw_zret r_2_isPoint_25 rfl (Or.inr rfl) (Nat.le_refl _) ⟨rfl, ?_⟩
    exact pe hP (by first | rfl | omega | exact (b2i_t (by omega)).symm | exact (b2i_f (by omega)).symm)
  · skip
    refine pw_iload r_2_isPoint_8 rfl ?_
    refine pw_const r_2_isPoint_9 ?_
    refine pw_icmp_eq r_2_isPoint_11 (fun h11 => ?_) (fun h11 => ?_)
    · skip
      refine pw_const r_2_isPoint_20 ?_
      refine pw_goto r_2_isPoint_21 ?_
      refine pw_zret r_2_isPoint_25 rfl (Or.inr rfl) (Nat.le_refl _) ⟨rfl, ?_⟩
      exact pe hP (by first | rfl | omega | exact (b2i_t (by omega)).symm | exact (b2i_f (by omega)).symm)
    · skip
      refine pw_iload r_2_isPoint_14 rfl ?_
      refine pw_const r_2_isPoint_15 ?_
      refine pw_icmp_ne r_2_isPoint_17 (fun h17 => ?_) (fun h17 => ?_)
      · skip
        refine pw_const r_2_isPoint_24 ?_
        refine pw_zret r_2_isPoint_25 rfl (Or.inl rfl) (Nat.le_refl _) ⟨rfl, ?_⟩
        exact pe hP (by first | rfl | omega | exact (b2i_t (by omega)).symm | exact (b2i_f (by omega)).symm)
      · skip
        refine pw_const r_2_isPoint_20 ?_
        refine pw_goto r_2_isPoint_21 ?_
        refine pw_zret r_2_isPoint_25 rfl (Or.inr rfl) (Nat.le_refl _) ⟨rfl, ?_⟩
        exact pe hP (by first | rfl | omega | exact (b2i_t (by omega)).symm | exact (b2i_f (by omega)).symm)

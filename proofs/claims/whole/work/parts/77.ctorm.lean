def cbF (n : Int) : Int → Int := fun j => if 28 ≤ j ∧ j < 28 * n ∧ j % 28 = 0 then 1 else 0
theorem cb_step {i : Int} (h : 1 ≤ i) : upA (cbF i) (27 * i + i) 1 = cbF (i + 1) := by
  funext j
  unfold upA cbF
  by_cases e : j = 27 * i + i
  · rw [if_pos e, if_pos (by omega)]
  · rw [if_neg e]
    by_cases e2 : 28 ≤ j ∧ j < 28 * i ∧ j % 28 = 0
    · rw [if_pos e2, if_pos (by omega)]
    · rw [if_neg e2, if_neg (by omega)]
theorem okG_gt : okG 0 gt := by
  have ha : okG 0 ga := by
    refine ⟨fun c r k => ?_, fun c r i => ⟨by show (-2147483648 : Int) ≤ 0; decide, by show (0 : Int) < 2147483648; decide⟩, fun c r i q hq => ?_⟩
    · show iR (gaF c k)
      unfold gaF
      split <;> exact ⟨by decide, by decide⟩
    · have hq' : (if c = 4 ∧ i = 3 then some ((106, 0) : PR) else none) = some q := hq
      by_cases h : c = 4 ∧ i = 3
      · rw [if_pos h] at hq'
        cases hq'
        exact lv_of rw106 (Int.le_refl 0) (by decide)
      · rw [if_neg h] at hq'
        cases hq'
  have h1 : okG 0 gr := okG_uA (okG_uA ha fun j => by unfold alF; split <;> exact ⟨by decide, by decide⟩) fun j => by unfold tsF; split <;> exact ⟨by decide, by decide⟩
  exact okG_sA (okG_sA h1 ⟨by decide, by decide⟩) ⟨by decide, by decide⟩
theorem tsm_0 : uA gt 270 0 (tsF 0) = gt := by
  rw [show tsF 0 = fun _ => 0 from funext fun j => if_neg (by omega)]
  exact uA_self gt 270 0
theorem cb_0 : uA (uA gt 270 0 (tsF 4)) 240 0 (cbF 1) = uA gt 270 0 (tsF 4) := by
  rw [show cbF 1 = fun _ => 0 from funext fun j => if_neg (by omega)]
  exact uA_self (uA gt 270 0 (tsF 4)) 240 0

theorem wd_m12_1 : Cond.methodLink "NameRollsModel" 1 Lib.objectInit ∈ UW := UW7_at 67 (by decide +kernel) rfl
theorem r_12_init_1 : ROI M_X12_init 1 4 := ⟨1, by decide +kernel, wd_m12_1, oin_ok.1, oin_ok.2, rfl⟩
theorem r_12_init_0 : RA M_X12_init 0 0 1 := Or.inl ⟨0, by decide +kernel, rfl, rfl⟩
theorem r_12_init_4 : RA M_X12_init 4 0 5 := Or.inl ⟨0, by decide +kernel, rfl, rfl⟩
theorem r_12_init_5 : RC M_X12_init 5 16 7 := ⟨⟨by decide, by decide⟩, Or.inr (Or.inl ⟨by decide +kernel, by decide, rfl⟩)⟩
theorem r_12_init_7 : RNA M_X12_init 7 0 9 := ⟨.int, by decide +kernel, rfl, rfl⟩
theorem r_12_init_9 : RP M_X12_init 9 12 1 12 := ⟨9, _, by decide +kernel, rfl, by decide, wd_f12_9, rfl, Or.inr ⟨rfl, rfl, rfl⟩, rfl⟩
theorem r_12_init_12 : RA M_X12_init 12 0 13 := Or.inl ⟨0, by decide +kernel, rfl, rfl⟩
theorem r_12_init_13 : RC M_X12_init 13 16 15 := ⟨⟨by decide, by decide⟩, Or.inr (Or.inl ⟨by decide +kernel, by decide, rfl⟩)⟩
theorem r_12_init_15 : RNA M_X12_init 15 0 17 := ⟨.int, by decide +kernel, rfl, rfl⟩
theorem r_12_init_17 : RP M_X12_init 17 12 2 20 := ⟨13, _, by decide +kernel, rfl, by decide, wd_f12_13, rfl, Or.inr ⟨rfl, rfl, rfl⟩, rfl⟩
theorem r_12_init_20 : RA M_X12_init 20 0 21 := Or.inl ⟨0, by decide +kernel, rfl, rfl⟩
theorem r_12_init_21 : RC M_X12_init 21 324 24 := ⟨⟨by decide, by decide⟩, Or.inr (Or.inr (Or.inl ⟨by decide +kernel, by decide, rfl⟩))⟩
theorem r_12_init_24 : RNA M_X12_init 24 0 26 := ⟨.int, by decide +kernel, rfl, rfl⟩
theorem r_12_init_26 : RP M_X12_init 26 12 4 29 := ⟨16, _, by decide +kernel, rfl, by decide, wd_f12_16, rfl, Or.inr ⟨rfl, rfl, rfl⟩, rfl⟩
theorem r_12_init_29 : RA M_X12_init 29 0 30 := Or.inl ⟨0, by decide +kernel, rfl, rfl⟩
theorem r_12_init_30 : RC M_X12_init 30 10 32 := ⟨⟨by decide, by decide⟩, Or.inr (Or.inl ⟨by decide +kernel, by decide, rfl⟩)⟩
theorem r_12_init_32 : RNA M_X12_init 32 0 34 := ⟨.int, by decide +kernel, rfl, rfl⟩
theorem r_12_init_34 : RP M_X12_init 34 12 5 37 := ⟨19, _, by decide +kernel, rfl, by decide, wd_f12_19, rfl, Or.inr ⟨rfl, rfl, rfl⟩, rfl⟩
theorem r_12_init_37 : RA M_X12_init 37 0 38 := Or.inl ⟨0, by decide +kernel, rfl, rfl⟩
theorem r_12_init_38 : RC M_X12_init 38 150 41 := ⟨⟨by decide, by decide⟩, Or.inr (Or.inr (Or.inl ⟨by decide +kernel, by decide, rfl⟩))⟩
theorem r_12_init_41 : RNA M_X12_init 41 0 43 := ⟨.int, by decide +kernel, rfl, rfl⟩
theorem r_12_init_43 : RP M_X12_init 43 12 6 46 := ⟨22, _, by decide +kernel, rfl, by decide, wd_f12_22, rfl, Or.inr ⟨rfl, rfl, rfl⟩, rfl⟩
theorem r_12_init_46 : RA M_X12_init 46 0 47 := Or.inl ⟨0, by decide +kernel, rfl, rfl⟩
theorem r_12_init_47 : RC M_X12_init 47 150 50 := ⟨⟨by decide, by decide⟩, Or.inr (Or.inr (Or.inl ⟨by decide +kernel, by decide, rfl⟩))⟩
theorem r_12_init_50 : RNA M_X12_init 50 0 52 := ⟨.int, by decide +kernel, rfl, rfl⟩
theorem r_12_init_52 : RP M_X12_init 52 12 7 55 := ⟨25, _, by decide +kernel, rfl, by decide, wd_f12_25, rfl, Or.inr ⟨rfl, rfl, rfl⟩, rfl⟩
theorem r_12_init_55 : RA M_X12_init 55 0 56 := Or.inl ⟨0, by decide +kernel, rfl, rfl⟩
theorem r_12_init_56 : RC M_X12_init 56 150 59 := ⟨⟨by decide, by decide⟩, Or.inr (Or.inr (Or.inl ⟨by decide +kernel, by decide, rfl⟩))⟩
theorem r_12_init_59 : RNA M_X12_init 59 0 61 := ⟨.int, by decide +kernel, rfl, rfl⟩
theorem r_12_init_61 : RP M_X12_init 61 12 8 64 := ⟨28, _, by decide +kernel, rfl, by decide, wd_f12_28, rfl, Or.inr ⟨rfl, rfl, rfl⟩, rfl⟩
theorem r_12_init_64 : RA M_X12_init 64 0 65 := Or.inl ⟨0, by decide +kernel, rfl, rfl⟩
theorem r_12_init_65 : RC M_X12_init 65 150 68 := ⟨⟨by decide, by decide⟩, Or.inr (Or.inr (Or.inl ⟨by decide +kernel, by decide, rfl⟩))⟩
theorem r_12_init_68 : RNA M_X12_init 68 0 70 := ⟨.int, by decide +kernel, rfl, rfl⟩
theorem r_12_init_70 : RP M_X12_init 70 12 9 73 := ⟨31, _, by decide +kernel, rfl, by decide, wd_f12_31, rfl, Or.inr ⟨rfl, rfl, rfl⟩, rfl⟩
theorem r_12_init_73 : RA M_X12_init 73 0 74 := Or.inl ⟨0, by decide +kernel, rfl, rfl⟩
theorem r_12_init_74 : RC M_X12_init 74 150 77 := ⟨⟨by decide, by decide⟩, Or.inr (Or.inr (Or.inl ⟨by decide +kernel, by decide, rfl⟩))⟩
theorem r_12_init_77 : RNA M_X12_init 77 0 79 := ⟨.int, by decide +kernel, rfl, rfl⟩
theorem r_12_init_79 : RP M_X12_init 79 12 10 82 := ⟨34, _, by decide +kernel, rfl, by decide, wd_f12_34, rfl, Or.inr ⟨rfl, rfl, rfl⟩, rfl⟩
theorem r_12_init_82 : RA M_X12_init 82 0 83 := Or.inl ⟨0, by decide +kernel, rfl, rfl⟩
theorem r_12_init_83 : RC M_X12_init 83 150 86 := ⟨⟨by decide, by decide⟩, Or.inr (Or.inr (Or.inl ⟨by decide +kernel, by decide, rfl⟩))⟩
theorem r_12_init_86 : RNA M_X12_init 86 0 88 := ⟨.int, by decide +kernel, rfl, rfl⟩
theorem r_12_init_88 : RP M_X12_init 88 12 11 91 := ⟨37, _, by decide +kernel, rfl, by decide, wd_f12_37, rfl, Or.inr ⟨rfl, rfl, rfl⟩, rfl⟩
theorem r_12_init_91 : RA M_X12_init 91 0 92 := Or.inl ⟨0, by decide +kernel, rfl, rfl⟩
theorem r_12_init_92 : RC M_X12_init 92 150 95 := ⟨⟨by decide, by decide⟩, Or.inr (Or.inr (Or.inl ⟨by decide +kernel, by decide, rfl⟩))⟩
theorem r_12_init_95 : RNA M_X12_init 95 0 97 := ⟨.int, by decide +kernel, rfl, rfl⟩
theorem r_12_init_97 : RP M_X12_init 97 12 12 100 := ⟨40, _, by decide +kernel, rfl, by decide, wd_f12_40, rfl, Or.inr ⟨rfl, rfl, rfl⟩, rfl⟩
theorem r_12_init_100 : RA M_X12_init 100 0 101 := Or.inl ⟨0, by decide +kernel, rfl, rfl⟩
theorem r_12_init_101 : RC M_X12_init 101 150 104 := ⟨⟨by decide, by decide⟩, Or.inr (Or.inr (Or.inl ⟨by decide +kernel, by decide, rfl⟩))⟩
theorem r_12_init_104 : RNA M_X12_init 104 0 106 := ⟨.int, by decide +kernel, rfl, rfl⟩
theorem r_12_init_106 : RP M_X12_init 106 12 13 109 := ⟨43, _, by decide +kernel, rfl, by decide, wd_f12_43, rfl, Or.inr ⟨rfl, rfl, rfl⟩, rfl⟩
theorem r_12_init_109 : RA M_X12_init 109 0 110 := Or.inl ⟨0, by decide +kernel, rfl, rfl⟩
theorem r_12_init_110 : RC M_X12_init 110 150 113 := ⟨⟨by decide, by decide⟩, Or.inr (Or.inr (Or.inl ⟨by decide +kernel, by decide, rfl⟩))⟩
theorem r_12_init_113 : RNA M_X12_init 113 0 115 := ⟨.int, by decide +kernel, rfl, rfl⟩
theorem r_12_init_115 : RP M_X12_init 115 12 14 118 := ⟨46, _, by decide +kernel, rfl, by decide, wd_f12_46, rfl, Or.inr ⟨rfl, rfl, rfl⟩, rfl⟩
theorem r_12_init_118 : RA M_X12_init 118 0 119 := Or.inl ⟨0, by decide +kernel, rfl, rfl⟩
theorem r_12_init_119 : RC M_X12_init 119 150 122 := ⟨⟨by decide, by decide⟩, Or.inr (Or.inr (Or.inl ⟨by decide +kernel, by decide, rfl⟩))⟩
theorem r_12_init_122 : RNA M_X12_init 122 0 124 := ⟨.int, by decide +kernel, rfl, rfl⟩
theorem r_12_init_124 : RP M_X12_init 124 12 15 127 := ⟨49, _, by decide +kernel, rfl, by decide, wd_f12_49, rfl, Or.inr ⟨rfl, rfl, rfl⟩, rfl⟩
theorem r_12_init_127 : RA M_X12_init 127 0 128 := Or.inl ⟨0, by decide +kernel, rfl, rfl⟩
theorem r_12_init_128 : RC M_X12_init 128 150 131 := ⟨⟨by decide, by decide⟩, Or.inr (Or.inr (Or.inl ⟨by decide +kernel, by decide, rfl⟩))⟩
theorem r_12_init_131 : RNA M_X12_init 131 0 133 := ⟨.int, by decide +kernel, rfl, rfl⟩
theorem r_12_init_133 : RP M_X12_init 133 12 16 136 := ⟨52, _, by decide +kernel, rfl, by decide, wd_f12_52, rfl, Or.inr ⟨rfl, rfl, rfl⟩, rfl⟩
theorem r_12_init_136 : RA M_X12_init 136 0 137 := Or.inl ⟨0, by decide +kernel, rfl, rfl⟩
theorem r_12_init_137 : RC M_X12_init 137 400 140 := ⟨⟨by decide, by decide⟩, Or.inr (Or.inr (Or.inl ⟨by decide +kernel, by decide, rfl⟩))⟩
theorem r_12_init_140 : RNA M_X12_init 140 0 142 := ⟨.int, by decide +kernel, rfl, rfl⟩
theorem r_12_init_142 : RP M_X12_init 142 12 18 145 := ⟨55, _, by decide +kernel, rfl, by decide, wd_f12_55, rfl, Or.inr ⟨rfl, rfl, rfl⟩, rfl⟩
theorem r_12_init_145 : RA M_X12_init 145 0 146 := Or.inl ⟨0, by decide +kernel, rfl, rfl⟩
theorem r_12_init_146 : RC M_X12_init 146 400 149 := ⟨⟨by decide, by decide⟩, Or.inr (Or.inr (Or.inl ⟨by decide +kernel, by decide, rfl⟩))⟩
theorem r_12_init_149 : RNA M_X12_init 149 0 151 := ⟨.int, by decide +kernel, rfl, rfl⟩
theorem r_12_init_151 : RP M_X12_init 151 12 19 154 := ⟨58, _, by decide +kernel, rfl, by decide, wd_f12_58, rfl, Or.inr ⟨rfl, rfl, rfl⟩, rfl⟩
theorem r_12_init_154 : RA M_X12_init 154 0 155 := Or.inl ⟨0, by decide +kernel, rfl, rfl⟩
theorem r_12_init_155 : RC M_X12_init 155 400 158 := ⟨⟨by decide, by decide⟩, Or.inr (Or.inr (Or.inl ⟨by decide +kernel, by decide, rfl⟩))⟩
theorem r_12_init_158 : RNA M_X12_init 158 0 160 := ⟨.int, by decide +kernel, rfl, rfl⟩
theorem r_12_init_160 : RP M_X12_init 160 12 20 163 := ⟨61, _, by decide +kernel, rfl, by decide, wd_f12_61, rfl, Or.inr ⟨rfl, rfl, rfl⟩, rfl⟩
theorem r_12_init_163 : RA M_X12_init 163 0 164 := Or.inl ⟨0, by decide +kernel, rfl, rfl⟩
theorem r_12_init_164 : RC M_X12_init 164 400 167 := ⟨⟨by decide, by decide⟩, Or.inr (Or.inr (Or.inl ⟨by decide +kernel, by decide, rfl⟩))⟩
theorem r_12_init_167 : RNA M_X12_init 167 0 169 := ⟨.int, by decide +kernel, rfl, rfl⟩
theorem r_12_init_169 : RP M_X12_init 169 12 21 172 := ⟨64, _, by decide +kernel, rfl, by decide, wd_f12_64, rfl, Or.inr ⟨rfl, rfl, rfl⟩, rfl⟩
theorem r_12_init_172 : RA M_X12_init 172 0 173 := Or.inl ⟨0, by decide +kernel, rfl, rfl⟩
theorem r_12_init_173 : RC M_X12_init 173 300 176 := ⟨⟨by decide, by decide⟩, Or.inr (Or.inr (Or.inl ⟨by decide +kernel, by decide, rfl⟩))⟩
theorem r_12_init_176 : RNA M_X12_init 176 0 178 := ⟨.int, by decide +kernel, rfl, rfl⟩
theorem r_12_init_178 : RP M_X12_init 178 12 23 181 := ⟨67, _, by decide +kernel, rfl, by decide, wd_f12_67, rfl, Or.inr ⟨rfl, rfl, rfl⟩, rfl⟩
theorem r_12_init_181 : RA M_X12_init 181 0 182 := Or.inl ⟨0, by decide +kernel, rfl, rfl⟩
theorem r_12_init_182 : RC M_X12_init 182 300 185 := ⟨⟨by decide, by decide⟩, Or.inr (Or.inr (Or.inl ⟨by decide +kernel, by decide, rfl⟩))⟩
theorem r_12_init_185 : RNA M_X12_init 185 0 187 := ⟨.int, by decide +kernel, rfl, rfl⟩
theorem r_12_init_187 : RP M_X12_init 187 12 24 190 := ⟨70, _, by decide +kernel, rfl, by decide, wd_f12_70, rfl, Or.inr ⟨rfl, rfl, rfl⟩, rfl⟩
theorem r_12_init_190 : RA M_X12_init 190 0 191 := Or.inl ⟨0, by decide +kernel, rfl, rfl⟩
theorem r_12_init_191 : RC M_X12_init 191 300 194 := ⟨⟨by decide, by decide⟩, Or.inr (Or.inr (Or.inl ⟨by decide +kernel, by decide, rfl⟩))⟩
theorem r_12_init_194 : RNA M_X12_init 194 0 196 := ⟨.int, by decide +kernel, rfl, rfl⟩
theorem r_12_init_196 : RP M_X12_init 196 12 25 199 := ⟨73, _, by decide +kernel, rfl, by decide, wd_f12_73, rfl, Or.inr ⟨rfl, rfl, rfl⟩, rfl⟩
theorem r_12_init_199 : RA M_X12_init 199 0 200 := Or.inl ⟨0, by decide +kernel, rfl, rfl⟩
theorem r_12_init_200 : RC M_X12_init 200 300 203 := ⟨⟨by decide, by decide⟩, Or.inr (Or.inr (Or.inl ⟨by decide +kernel, by decide, rfl⟩))⟩
theorem r_12_init_203 : RNA M_X12_init 203 0 205 := ⟨.int, by decide +kernel, rfl, rfl⟩
theorem r_12_init_205 : RP M_X12_init 205 12 26 208 := ⟨76, _, by decide +kernel, rfl, by decide, wd_f12_76, rfl, Or.inr ⟨rfl, rfl, rfl⟩, rfl⟩
theorem r_12_init_208 : RA M_X12_init 208 0 209 := Or.inl ⟨0, by decide +kernel, rfl, rfl⟩
theorem r_12_init_209 : RC M_X12_init 209 60 211 := ⟨⟨by decide, by decide⟩, Or.inr (Or.inl ⟨by decide +kernel, by decide, rfl⟩)⟩
theorem r_12_init_211 : RNA M_X12_init 211 0 213 := ⟨.int, by decide +kernel, rfl, rfl⟩
theorem r_12_init_213 : RP M_X12_init 213 12 28 216 := ⟨79, _, by decide +kernel, rfl, by decide, wd_f12_79, rfl, Or.inr ⟨rfl, rfl, rfl⟩, rfl⟩
theorem r_12_init_216 : RA M_X12_init 216 0 217 := Or.inl ⟨0, by decide +kernel, rfl, rfl⟩
theorem r_12_init_217 : RC M_X12_init 217 40 219 := ⟨⟨by decide, by decide⟩, Or.inr (Or.inl ⟨by decide +kernel, by decide, rfl⟩)⟩
theorem r_12_init_219 : RNA M_X12_init 219 0 221 := ⟨.int, by decide +kernel, rfl, rfl⟩
theorem r_12_init_221 : RP M_X12_init 221 12 30 224 := ⟨82, _, by decide +kernel, rfl, by decide, wd_f12_82, rfl, Or.inr ⟨rfl, rfl, rfl⟩, rfl⟩
theorem r_12_init_224 : RA M_X12_init 224 0 225 := Or.inl ⟨0, by decide +kernel, rfl, rfl⟩
theorem r_12_init_225 : RC M_X12_init 225 40 227 := ⟨⟨by decide, by decide⟩, Or.inr (Or.inl ⟨by decide +kernel, by decide, rfl⟩)⟩
theorem r_12_init_227 : RNA M_X12_init 227 0 229 := ⟨.int, by decide +kernel, rfl, rfl⟩
theorem r_12_init_229 : RP M_X12_init 229 12 31 232 := ⟨85, _, by decide +kernel, rfl, by decide, wd_f12_85, rfl, Or.inr ⟨rfl, rfl, rfl⟩, rfl⟩
theorem r_12_init_232 : RA M_X12_init 232 0 233 := Or.inl ⟨0, by decide +kernel, rfl, rfl⟩
theorem r_12_init_233 : RC M_X12_init 233 40 235 := ⟨⟨by decide, by decide⟩, Or.inr (Or.inl ⟨by decide +kernel, by decide, rfl⟩)⟩
theorem r_12_init_235 : RNA M_X12_init 235 0 237 := ⟨.int, by decide +kernel, rfl, rfl⟩
theorem r_12_init_237 : RP M_X12_init 237 12 32 240 := ⟨88, _, by decide +kernel, rfl, by decide, wd_f12_88, rfl, Or.inr ⟨rfl, rfl, rfl⟩, rfl⟩
theorem r_12_init_240 : RA M_X12_init 240 0 241 := Or.inl ⟨0, by decide +kernel, rfl, rfl⟩
theorem r_12_init_241 : RC M_X12_init 241 40 243 := ⟨⟨by decide, by decide⟩, Or.inr (Or.inl ⟨by decide +kernel, by decide, rfl⟩)⟩
theorem r_12_init_243 : RNA M_X12_init 243 0 245 := ⟨.int, by decide +kernel, rfl, rfl⟩
theorem r_12_init_245 : RP M_X12_init 245 12 33 248 := ⟨91, _, by decide +kernel, rfl, by decide, wd_f12_91, rfl, Or.inr ⟨rfl, rfl, rfl⟩, rfl⟩
theorem r_12_init_248 : RA M_X12_init 248 0 249 := Or.inl ⟨0, by decide +kernel, rfl, rfl⟩
theorem r_12_init_249 : RC M_X12_init 249 160 252 := ⟨⟨by decide, by decide⟩, Or.inr (Or.inr (Or.inl ⟨by decide +kernel, by decide, rfl⟩))⟩
theorem r_12_init_252 : RNA M_X12_init 252 0 254 := ⟨.int, by decide +kernel, rfl, rfl⟩
theorem r_12_init_254 : RP M_X12_init 254 12 35 257 := ⟨94, _, by decide +kernel, rfl, by decide, wd_f12_94, rfl, Or.inr ⟨rfl, rfl, rfl⟩, rfl⟩
theorem r_12_init_257 : RA M_X12_init 257 0 258 := Or.inl ⟨0, by decide +kernel, rfl, rfl⟩
theorem r_12_init_258 : RC M_X12_init 258 3200 261 := ⟨⟨by decide, by decide⟩, Or.inr (Or.inr (Or.inl ⟨by decide +kernel, by decide, rfl⟩))⟩
theorem r_12_init_261 : RNA M_X12_init 261 0 263 := ⟨.int, by decide +kernel, rfl, rfl⟩
theorem r_12_init_263 : RP M_X12_init 263 12 37 266 := ⟨97, _, by decide +kernel, rfl, by decide, wd_f12_97, rfl, Or.inr ⟨rfl, rfl, rfl⟩, rfl⟩
theorem r_12_init_266 : RA M_X12_init 266 0 267 := Or.inl ⟨0, by decide +kernel, rfl, rfl⟩
theorem r_12_init_267 : RC M_X12_init 267 20 269 := ⟨⟨by decide, by decide⟩, Or.inr (Or.inl ⟨by decide +kernel, by decide, rfl⟩)⟩
theorem r_12_init_269 : RNA M_X12_init 269 0 271 := ⟨.int, by decide +kernel, rfl, rfl⟩
theorem r_12_init_271 : RP M_X12_init 271 12 38 274 := ⟨100, _, by decide +kernel, rfl, by decide, wd_f12_100, rfl, Or.inr ⟨rfl, rfl, rfl⟩, rfl⟩
theorem r_12_init_274 : RA M_X12_init 274 0 275 := Or.inl ⟨0, by decide +kernel, rfl, rfl⟩
theorem r_12_init_275 : RC M_X12_init 275 20 277 := ⟨⟨by decide, by decide⟩, Or.inr (Or.inl ⟨by decide +kernel, by decide, rfl⟩)⟩
theorem r_12_init_277 : RNA M_X12_init 277 0 279 := ⟨.int, by decide +kernel, rfl, rfl⟩
theorem r_12_init_279 : RP M_X12_init 279 12 39 282 := ⟨103, _, by decide +kernel, rfl, by decide, wd_f12_103, rfl, Or.inr ⟨rfl, rfl, rfl⟩, rfl⟩
theorem r_12_init_282 : RA M_X12_init 282 0 283 := Or.inl ⟨0, by decide +kernel, rfl, rfl⟩
theorem r_12_init_283 : RC M_X12_init 283 20 285 := ⟨⟨by decide, by decide⟩, Or.inr (Or.inl ⟨by decide +kernel, by decide, rfl⟩)⟩
theorem r_12_init_285 : RNA M_X12_init 285 0 287 := ⟨.int, by decide +kernel, rfl, rfl⟩
theorem r_12_init_287 : RP M_X12_init 287 12 40 290 := ⟨106, _, by decide +kernel, rfl, by decide, wd_f12_106, rfl, Or.inr ⟨rfl, rfl, rfl⟩, rfl⟩
theorem r_12_init_290 : RA M_X12_init 290 0 291 := Or.inl ⟨0, by decide +kernel, rfl, rfl⟩
theorem r_12_init_291 : RC M_X12_init 291 20 293 := ⟨⟨by decide, by decide⟩, Or.inr (Or.inl ⟨by decide +kernel, by decide, rfl⟩)⟩
theorem r_12_init_293 : RNA M_X12_init 293 0 295 := ⟨.int, by decide +kernel, rfl, rfl⟩
theorem r_12_init_295 : RP M_X12_init 295 12 41 298 := ⟨109, _, by decide +kernel, rfl, by decide, wd_f12_109, rfl, Or.inr ⟨rfl, rfl, rfl⟩, rfl⟩
theorem r_12_init_298 : RA M_X12_init 298 0 299 := Or.inl ⟨0, by decide +kernel, rfl, rfl⟩
theorem r_12_init_299 : RC M_X12_init 299 18 301 := ⟨⟨by decide, by decide⟩, Or.inr (Or.inl ⟨by decide +kernel, by decide, rfl⟩)⟩
theorem r_12_init_301 : RNA M_X12_init 301 0 303 := ⟨.int, by decide +kernel, rfl, rfl⟩
theorem r_12_init_303 : RP M_X12_init 303 12 43 306 := ⟨112, _, by decide +kernel, rfl, by decide, wd_f12_112, rfl, Or.inr ⟨rfl, rfl, rfl⟩, rfl⟩
theorem r_12_init_306 : RA M_X12_init 306 0 307 := Or.inl ⟨0, by decide +kernel, rfl, rfl⟩
theorem r_12_init_307 : RC M_X12_init 307 9 309 := ⟨⟨by decide, by decide⟩, Or.inr (Or.inl ⟨by decide +kernel, by decide, rfl⟩)⟩
theorem r_12_init_309 : RNA M_X12_init 309 0 311 := ⟨.int, by decide +kernel, rfl, rfl⟩
theorem r_12_init_311 : RP M_X12_init 311 12 49 314 := ⟨115, _, by decide +kernel, rfl, by decide, wd_f12_115, rfl, Or.inr ⟨rfl, rfl, rfl⟩, rfl⟩
theorem r_12_init_314 : RA M_X12_init 314 0 315 := Or.inl ⟨0, by decide +kernel, rfl, rfl⟩
theorem r_12_init_315 : RC M_X12_init 315 100 317 := ⟨⟨by decide, by decide⟩, Or.inr (Or.inl ⟨by decide +kernel, by decide, rfl⟩)⟩
theorem r_12_init_317 : RNA M_X12_init 317 0 319 := ⟨.int, by decide +kernel, rfl, rfl⟩
theorem r_12_init_319 : RP M_X12_init 319 12 51 322 := ⟨118, _, by decide +kernel, rfl, by decide, wd_f12_118, rfl, Or.inr ⟨rfl, rfl, rfl⟩, rfl⟩
theorem r_12_init_322 : RA M_X12_init 322 0 323 := Or.inl ⟨0, by decide +kernel, rfl, rfl⟩
theorem r_12_init_323 : RC M_X12_init 323 100 325 := ⟨⟨by decide, by decide⟩, Or.inr (Or.inl ⟨by decide +kernel, by decide, rfl⟩)⟩
theorem r_12_init_325 : RNA M_X12_init 325 0 327 := ⟨.int, by decide +kernel, rfl, rfl⟩
theorem r_12_init_327 : RP M_X12_init 327 12 52 330 := ⟨121, _, by decide +kernel, rfl, by decide, wd_f12_121, rfl, Or.inr ⟨rfl, rfl, rfl⟩, rfl⟩
theorem r_12_init_330 : RA M_X12_init 330 0 331 := Or.inl ⟨0, by decide +kernel, rfl, rfl⟩
theorem r_12_init_331 : RC M_X12_init 331 100 333 := ⟨⟨by decide, by decide⟩, Or.inr (Or.inl ⟨by decide +kernel, by decide, rfl⟩)⟩
theorem r_12_init_333 : RNA M_X12_init 333 0 335 := ⟨.int, by decide +kernel, rfl, rfl⟩
theorem r_12_init_335 : RP M_X12_init 335 12 53 338 := ⟨124, _, by decide +kernel, rfl, by decide, wd_f12_124, rfl, Or.inr ⟨rfl, rfl, rfl⟩, rfl⟩
theorem r_12_init_338 : RA M_X12_init 338 0 339 := Or.inl ⟨0, by decide +kernel, rfl, rfl⟩
theorem r_12_init_339 : RC M_X12_init 339 100 341 := ⟨⟨by decide, by decide⟩, Or.inr (Or.inl ⟨by decide +kernel, by decide, rfl⟩)⟩
theorem r_12_init_341 : RNA M_X12_init 341 0 343 := ⟨.int, by decide +kernel, rfl, rfl⟩
theorem r_12_init_343 : RP M_X12_init 343 12 54 346 := ⟨127, _, by decide +kernel, rfl, by decide, wd_f12_127, rfl, Or.inr ⟨rfl, rfl, rfl⟩, rfl⟩
theorem r_12_init_346 : RA M_X12_init 346 0 347 := Or.inl ⟨0, by decide +kernel, rfl, rfl⟩
theorem r_12_init_347 : RC M_X12_init 347 729 350 := ⟨⟨by decide, by decide⟩, Or.inr (Or.inr (Or.inl ⟨by decide +kernel, by decide, rfl⟩))⟩
theorem r_12_init_350 : RNA M_X12_init 350 2 352 := ⟨.boolean, by decide +kernel, rfl, rfl⟩
theorem r_12_init_352 : RP M_X12_init 352 12 56 355 := ⟨130, _, by decide +kernel, rfl, by decide, wd_f12_130, rfl, Or.inr ⟨rfl, rfl, rfl⟩, rfl⟩
theorem r_12_init_355 : RA M_X12_init 355 0 356 := Or.inl ⟨0, by decide +kernel, rfl, rfl⟩
theorem r_12_init_356 : RC M_X12_init 356 (-1) 357 := ⟨⟨by decide, by decide⟩, Or.inl ⟨by decide +kernel, rfl⟩⟩
theorem r_12_init_357 : RP M_X12_init 357 12 57 360 := ⟨134, _, by decide +kernel, rfl, by decide, wd_f12_134, rfl, Or.inl rfl, rfl⟩
theorem r_12_init_360 : RA M_X12_init 360 0 361 := Or.inl ⟨0, by decide +kernel, rfl, rfl⟩
theorem r_12_init_361 : RC M_X12_init 361 100 363 := ⟨⟨by decide, by decide⟩, Or.inr (Or.inl ⟨by decide +kernel, by decide, rfl⟩)⟩
theorem r_12_init_363 : RNA M_X12_init 363 2 365 := ⟨.boolean, by decide +kernel, rfl, rfl⟩
theorem r_12_init_365 : RP M_X12_init 365 12 59 368 := ⟨138, _, by decide +kernel, rfl, by decide, wd_f12_138, rfl, Or.inr ⟨rfl, rfl, rfl⟩, rfl⟩
theorem r_12_init_368 : RA M_X12_init 368 0 369 := Or.inl ⟨0, by decide +kernel, rfl, rfl⟩
theorem r_12_init_369 : RC M_X12_init 369 14 371 := ⟨⟨by decide, by decide⟩, Or.inr (Or.inl ⟨by decide +kernel, by decide, rfl⟩)⟩
theorem r_12_init_371 : RNA M_X12_init 371 0 373 := ⟨.int, by decide +kernel, rfl, rfl⟩
theorem r_12_init_373 : RP M_X12_init 373 12 60 376 := ⟨141, _, by decide +kernel, rfl, by decide, wd_f12_141, rfl, Or.inr ⟨rfl, rfl, rfl⟩, rfl⟩
theorem r_12_init_376 : RA M_X12_init 376 0 377 := Or.inl ⟨0, by decide +kernel, rfl, rfl⟩
theorem r_12_init_377 : RC M_X12_init 377 2 378 := ⟨⟨by decide, by decide⟩, Or.inl ⟨by decide +kernel, rfl⟩⟩
theorem r_12_init_378 : RNA M_X12_init 378 0 380 := ⟨.int, by decide +kernel, rfl, rfl⟩
theorem r_12_init_380 : RP M_X12_init 380 12 61 383 := ⟨144, _, by decide +kernel, rfl, by decide, wd_f12_144, rfl, Or.inr ⟨rfl, rfl, rfl⟩, rfl⟩
theorem r_12_init_383 : RA M_X12_init 383 0 384 := Or.inl ⟨0, by decide +kernel, rfl, rfl⟩
theorem r_12_init_384 : RC M_X12_init 384 10 386 := ⟨⟨by decide, by decide⟩, Or.inr (Or.inl ⟨by decide +kernel, by decide, rfl⟩)⟩
theorem r_12_init_386 : RP M_X12_init 386 12 62 389 := ⟨147, _, by decide +kernel, rfl, by decide, wd_f12_147, rfl, Or.inl rfl, rfl⟩
theorem r_12_init_389 : RA M_X12_init 389 0 390 := Or.inl ⟨0, by decide +kernel, rfl, rfl⟩
theorem r_12_init_390 : RC M_X12_init 390 (-1) 391 := ⟨⟨by decide, by decide⟩, Or.inl ⟨by decide +kernel, rfl⟩⟩
theorem r_12_init_391 : RP M_X12_init 391 12 63 394 := ⟨150, _, by decide +kernel, rfl, by decide, wd_f12_150, rfl, Or.inl rfl, rfl⟩
theorem r_12_init_394 : RA M_X12_init 394 0 395 := Or.inl ⟨0, by decide +kernel, rfl, rfl⟩
theorem r_12_init_395 : RC M_X12_init 395 2 396 := ⟨⟨by decide, by decide⟩, Or.inl ⟨by decide +kernel, rfl⟩⟩
theorem r_12_init_396 : RNA M_X12_init 396 0 398 := ⟨.int, by decide +kernel, rfl, rfl⟩
theorem r_12_init_398 : RP M_X12_init 398 12 64 401 := ⟨153, _, by decide +kernel, rfl, by decide, wd_f12_153, rfl, Or.inr ⟨rfl, rfl, rfl⟩, rfl⟩
theorem r_12_init_401 : RA M_X12_init 401 0 402 := Or.inl ⟨0, by decide +kernel, rfl, rfl⟩
theorem r_12_init_402 : RC M_X12_init 402 14 404 := ⟨⟨by decide, by decide⟩, Or.inr (Or.inl ⟨by decide +kernel, by decide, rfl⟩)⟩
theorem r_12_init_404 : RNA M_X12_init 404 2 406 := ⟨.boolean, by decide +kernel, rfl, rfl⟩
theorem r_12_init_406 : RP M_X12_init 406 12 65 409 := ⟨156, _, by decide +kernel, rfl, by decide, wd_f12_156, rfl, Or.inr ⟨rfl, rfl, rfl⟩, rfl⟩
theorem r_12_init_409 : RA M_X12_init 409 0 410 := Or.inl ⟨0, by decide +kernel, rfl, rfl⟩
theorem r_12_init_410 : RC M_X12_init 410 28 412 := ⟨⟨by decide, by decide⟩, Or.inr (Or.inl ⟨by decide +kernel, by decide, rfl⟩)⟩
theorem r_12_init_412 : RNA M_X12_init 412 0 414 := ⟨.int, by decide +kernel, rfl, rfl⟩
theorem r_12_init_414 : RP M_X12_init 414 12 66 417 := ⟨159, _, by decide +kernel, rfl, by decide, wd_f12_159, rfl, Or.inr ⟨rfl, rfl, rfl⟩, rfl⟩
theorem r_12_init_417 : RA M_X12_init 417 0 418 := Or.inl ⟨0, by decide +kernel, rfl, rfl⟩
theorem r_12_init_418 : RC M_X12_init 418 150 421 := ⟨⟨by decide, by decide⟩, Or.inr (Or.inr (Or.inl ⟨by decide +kernel, by decide, rfl⟩))⟩
theorem r_12_init_421 : RNA M_X12_init 421 2 423 := ⟨.boolean, by decide +kernel, rfl, rfl⟩
theorem r_12_init_423 : RP M_X12_init 423 12 67 426 := ⟨162, _, by decide +kernel, rfl, by decide, wd_f12_162, rfl, Or.inr ⟨rfl, rfl, rfl⟩, rfl⟩
theorem r_12_init_426 : RA M_X12_init 426 0 427 := Or.inl ⟨0, by decide +kernel, rfl, rfl⟩
theorem r_12_init_427 : RC M_X12_init 427 6 429 := ⟨⟨by decide, by decide⟩, Or.inr (Or.inl ⟨by decide +kernel, by decide, rfl⟩)⟩
theorem r_12_init_429 : RNA M_X12_init 429 0 431 := ⟨.int, by decide +kernel, rfl, rfl⟩
theorem r_12_init_431 : RP M_X12_init 431 12 68 434 := ⟨165, _, by decide +kernel, rfl, by decide, wd_f12_165, rfl, Or.inr ⟨rfl, rfl, rfl⟩, rfl⟩
theorem r_12_init_434 : RA M_X12_init 434 0 435 := Or.inl ⟨0, by decide +kernel, rfl, rfl⟩
theorem r_12_init_435 : RC M_X12_init 435 6 437 := ⟨⟨by decide, by decide⟩, Or.inr (Or.inl ⟨by decide +kernel, by decide, rfl⟩)⟩
theorem r_12_init_437 : RNA M_X12_init 437 0 439 := ⟨.int, by decide +kernel, rfl, rfl⟩
theorem r_12_init_439 : RP M_X12_init 439 12 69 442 := ⟨168, _, by decide +kernel, rfl, by decide, wd_f12_168, rfl, Or.inr ⟨rfl, rfl, rfl⟩, rfl⟩
theorem r_12_init_442 : RA M_X12_init 442 0 443 := Or.inl ⟨0, by decide +kernel, rfl, rfl⟩
theorem r_12_init_443 : RC M_X12_init 443 6 445 := ⟨⟨by decide, by decide⟩, Or.inr (Or.inl ⟨by decide +kernel, by decide, rfl⟩)⟩
theorem r_12_init_445 : RNA M_X12_init 445 0 447 := ⟨.int, by decide +kernel, rfl, rfl⟩
theorem r_12_init_447 : RP M_X12_init 447 12 70 450 := ⟨171, _, by decide +kernel, rfl, by decide, wd_f12_171, rfl, Or.inr ⟨rfl, rfl, rfl⟩, rfl⟩
theorem r_12_init_450 : RA M_X12_init 450 0 451 := Or.inl ⟨0, by decide +kernel, rfl, rfl⟩
theorem r_12_init_451 : RC M_X12_init 451 6 453 := ⟨⟨by decide, by decide⟩, Or.inr (Or.inl ⟨by decide +kernel, by decide, rfl⟩)⟩
theorem r_12_init_453 : RNA M_X12_init 453 0 455 := ⟨.int, by decide +kernel, rfl, rfl⟩
theorem r_12_init_455 : RP M_X12_init 455 12 72 458 := ⟨174, _, by decide +kernel, rfl, by decide, wd_f12_174, rfl, Or.inr ⟨rfl, rfl, rfl⟩, rfl⟩
theorem r_12_init_458 : RA M_X12_init 458 0 459 := Or.inl ⟨0, by decide +kernel, rfl, rfl⟩
theorem r_12_init_459 : RC M_X12_init 459 6 461 := ⟨⟨by decide, by decide⟩, Or.inr (Or.inl ⟨by decide +kernel, by decide, rfl⟩)⟩
theorem r_12_init_461 : RNA M_X12_init 461 0 463 := ⟨.int, by decide +kernel, rfl, rfl⟩
theorem r_12_init_463 : RP M_X12_init 463 12 73 466 := ⟨177, _, by decide +kernel, rfl, by decide, wd_f12_177, rfl, Or.inr ⟨rfl, rfl, rfl⟩, rfl⟩
theorem r_12_init_466 : RA M_X12_init 466 0 467 := Or.inl ⟨0, by decide +kernel, rfl, rfl⟩
theorem r_12_init_467 : RC M_X12_init 467 6 469 := ⟨⟨by decide, by decide⟩, Or.inr (Or.inl ⟨by decide +kernel, by decide, rfl⟩)⟩
theorem r_12_init_469 : RNA M_X12_init 469 0 471 := ⟨.int, by decide +kernel, rfl, rfl⟩
theorem r_12_init_471 : RP M_X12_init 471 12 74 474 := ⟨180, _, by decide +kernel, rfl, by decide, wd_f12_180, rfl, Or.inr ⟨rfl, rfl, rfl⟩, rfl⟩
theorem r_12_init_474 : RA M_X12_init 474 0 475 := Or.inl ⟨0, by decide +kernel, rfl, rfl⟩
theorem r_12_init_475 : RC M_X12_init 475 6 477 := ⟨⟨by decide, by decide⟩, Or.inr (Or.inl ⟨by decide +kernel, by decide, rfl⟩)⟩
theorem r_12_init_477 : RNA M_X12_init 477 0 479 := ⟨.int, by decide +kernel, rfl, rfl⟩
theorem r_12_init_479 : RP M_X12_init 479 12 75 482 := ⟨183, _, by decide +kernel, rfl, by decide, wd_f12_183, rfl, Or.inr ⟨rfl, rfl, rfl⟩, rfl⟩
theorem r_12_init_482 : RA M_X12_init 482 0 483 := Or.inl ⟨0, by decide +kernel, rfl, rfl⟩
theorem r_12_init_483 : RC M_X12_init 483 6 485 := ⟨⟨by decide, by decide⟩, Or.inr (Or.inl ⟨by decide +kernel, by decide, rfl⟩)⟩
theorem r_12_init_485 : RNA M_X12_init 485 0 487 := ⟨.int, by decide +kernel, rfl, rfl⟩
theorem r_12_init_487 : RP M_X12_init 487 12 76 490 := ⟨186, _, by decide +kernel, rfl, by decide, wd_f12_186, rfl, Or.inr ⟨rfl, rfl, rfl⟩, rfl⟩
theorem r_12_init_490 : RA M_X12_init 490 0 491 := Or.inl ⟨0, by decide +kernel, rfl, rfl⟩
theorem r_12_init_491 : RC M_X12_init 491 20 493 := ⟨⟨by decide, by decide⟩, Or.inr (Or.inl ⟨by decide +kernel, by decide, rfl⟩)⟩
theorem r_12_init_493 : RNA M_X12_init 493 0 495 := ⟨.int, by decide +kernel, rfl, rfl⟩
theorem r_12_init_495 : RP M_X12_init 495 12 82 498 := ⟨189, _, by decide +kernel, rfl, by decide, wd_f12_189, rfl, Or.inr ⟨rfl, rfl, rfl⟩, rfl⟩
theorem r_12_init_498 : RA M_X12_init 498 0 499 := Or.inl ⟨0, by decide +kernel, rfl, rfl⟩
theorem r_12_init_499 : RC M_X12_init 499 2 500 := ⟨⟨by decide, by decide⟩, Or.inl ⟨by decide +kernel, rfl⟩⟩
theorem r_12_init_500 : RNA M_X12_init 500 0 502 := ⟨.int, by decide +kernel, rfl, rfl⟩
theorem r_12_init_502 : RP M_X12_init 502 12 83 505 := ⟨192, _, by decide +kernel, rfl, by decide, wd_f12_192, rfl, Or.inr ⟨rfl, rfl, rfl⟩, rfl⟩
theorem r_12_init_505 : RA M_X12_init 505 0 506 := Or.inl ⟨0, by decide +kernel, rfl, rfl⟩
theorem r_12_init_506 : RC M_X12_init 506 12100 509 := ⟨⟨by decide, by decide⟩, Or.inr (Or.inr (Or.inl ⟨by decide +kernel, by decide, rfl⟩))⟩
theorem r_12_init_509 : RNA M_X12_init 509 0 511 := ⟨.int, by decide +kernel, rfl, rfl⟩
theorem r_12_init_511 : RP M_X12_init 511 12 84 514 := ⟨195, _, by decide +kernel, rfl, by decide, wd_f12_195, rfl, Or.inr ⟨rfl, rfl, rfl⟩, rfl⟩
theorem r_12_init_514 : RA M_X12_init 514 0 515 := Or.inl ⟨0, by decide +kernel, rfl, rfl⟩
theorem r_12_init_515 : RC M_X12_init 515 200 518 := ⟨⟨by decide, by decide⟩, Or.inr (Or.inr (Or.inl ⟨by decide +kernel, by decide, rfl⟩))⟩
theorem r_12_init_518 : RNA M_X12_init 518 0 520 := ⟨.int, by decide +kernel, rfl, rfl⟩
theorem r_12_init_520 : RP M_X12_init 520 12 86 523 := ⟨198, _, by decide +kernel, rfl, by decide, wd_f12_198, rfl, Or.inr ⟨rfl, rfl, rfl⟩, rfl⟩
theorem r_12_init_523 : RA M_X12_init 523 0 524 := Or.inl ⟨0, by decide +kernel, rfl, rfl⟩
theorem r_12_init_524 : RC M_X12_init 524 5 525 := ⟨⟨by decide, by decide⟩, Or.inl ⟨by decide +kernel, rfl⟩⟩
theorem r_12_init_525 : RNA M_X12_init 525 0 527 := ⟨.int, by decide +kernel, rfl, rfl⟩
theorem r_12_init_527 : RP M_X12_init 527 12 88 530 := ⟨201, _, by decide +kernel, rfl, by decide, wd_f12_201, rfl, Or.inr ⟨rfl, rfl, rfl⟩, rfl⟩
theorem r_12_init_530 : RA M_X12_init 530 0 531 := Or.inl ⟨0, by decide +kernel, rfl, rfl⟩
theorem r_12_init_531 : RC M_X12_init 531 5 532 := ⟨⟨by decide, by decide⟩, Or.inl ⟨by decide +kernel, rfl⟩⟩
theorem r_12_init_532 : RNA M_X12_init 532 0 534 := ⟨.int, by decide +kernel, rfl, rfl⟩
theorem r_12_init_534 : RP M_X12_init 534 12 89 537 := ⟨204, _, by decide +kernel, rfl, by decide, wd_f12_204, rfl, Or.inr ⟨rfl, rfl, rfl⟩, rfl⟩
theorem r_12_init_537 : RA M_X12_init 537 0 538 := Or.inl ⟨0, by decide +kernel, rfl, rfl⟩
theorem r_12_init_538 : RC M_X12_init 538 5 539 := ⟨⟨by decide, by decide⟩, Or.inl ⟨by decide +kernel, rfl⟩⟩
theorem r_12_init_539 : RNA M_X12_init 539 0 541 := ⟨.int, by decide +kernel, rfl, rfl⟩
theorem r_12_init_541 : RP M_X12_init 541 12 90 544 := ⟨207, _, by decide +kernel, rfl, by decide, wd_f12_207, rfl, Or.inr ⟨rfl, rfl, rfl⟩, rfl⟩
theorem r_12_init_544 : RA M_X12_init 544 0 545 := Or.inl ⟨0, by decide +kernel, rfl, rfl⟩
theorem r_12_init_545 : RC M_X12_init 545 150 548 := ⟨⟨by decide, by decide⟩, Or.inr (Or.inr (Or.inl ⟨by decide +kernel, by decide, rfl⟩))⟩
theorem r_12_init_548 : RNA M_X12_init 548 0 550 := ⟨.int, by decide +kernel, rfl, rfl⟩
theorem r_12_init_550 : RP M_X12_init 550 12 92 553 := ⟨210, _, by decide +kernel, rfl, by decide, wd_f12_210, rfl, Or.inr ⟨rfl, rfl, rfl⟩, rfl⟩
theorem r_12_init_553 : RA M_X12_init 553 0 554 := Or.inl ⟨0, by decide +kernel, rfl, rfl⟩
theorem r_12_init_554 : RC M_X12_init 554 6 556 := ⟨⟨by decide, by decide⟩, Or.inr (Or.inl ⟨by decide +kernel, by decide, rfl⟩)⟩
theorem r_12_init_556 : RNA M_X12_init 556 0 558 := ⟨.int, by decide +kernel, rfl, rfl⟩
theorem r_12_init_558 : RP M_X12_init 558 12 94 561 := ⟨213, _, by decide +kernel, rfl, by decide, wd_f12_213, rfl, Or.inr ⟨rfl, rfl, rfl⟩, rfl⟩
theorem r_12_init_561 : RA M_X12_init 561 0 562 := Or.inl ⟨0, by decide +kernel, rfl, rfl⟩
theorem r_12_init_562 : RC M_X12_init 562 6 564 := ⟨⟨by decide, by decide⟩, Or.inr (Or.inl ⟨by decide +kernel, by decide, rfl⟩)⟩
theorem r_12_init_564 : RNA M_X12_init 564 0 566 := ⟨.int, by decide +kernel, rfl, rfl⟩
theorem r_12_init_566 : RP M_X12_init 566 12 95 569 := ⟨216, _, by decide +kernel, rfl, by decide, wd_f12_216, rfl, Or.inr ⟨rfl, rfl, rfl⟩, rfl⟩
theorem r_12_init_569 : RA M_X12_init 569 0 570 := Or.inl ⟨0, by decide +kernel, rfl, rfl⟩
theorem r_12_init_570 : RC M_X12_init 570 4 571 := ⟨⟨by decide, by decide⟩, Or.inl ⟨by decide +kernel, rfl⟩⟩
theorem r_12_init_571 : RNA M_X12_init 571 0 573 := ⟨.int, by decide +kernel, rfl, rfl⟩
theorem r_12_init_573 : RP M_X12_init 573 12 97 576 := ⟨219, _, by decide +kernel, rfl, by decide, wd_f12_219, rfl, Or.inr ⟨rfl, rfl, rfl⟩, rfl⟩
theorem r_12_init_576 : RA M_X12_init 576 0 577 := Or.inl ⟨0, by decide +kernel, rfl, rfl⟩
theorem r_12_init_577 : RC M_X12_init 577 6 579 := ⟨⟨by decide, by decide⟩, Or.inr (Or.inl ⟨by decide +kernel, by decide, rfl⟩)⟩
theorem r_12_init_579 : RNA M_X12_init 579 0 581 := ⟨.int, by decide +kernel, rfl, rfl⟩
theorem r_12_init_581 : RP M_X12_init 581 12 99 584 := ⟨222, _, by decide +kernel, rfl, by decide, wd_f12_222, rfl, Or.inr ⟨rfl, rfl, rfl⟩, rfl⟩
theorem r_12_init_584 : RA M_X12_init 584 0 585 := Or.inl ⟨0, by decide +kernel, rfl, rfl⟩
theorem r_12_init_585 : RC M_X12_init 585 6 587 := ⟨⟨by decide, by decide⟩, Or.inr (Or.inl ⟨by decide +kernel, by decide, rfl⟩)⟩
theorem r_12_init_587 : RNA M_X12_init 587 0 589 := ⟨.int, by decide +kernel, rfl, rfl⟩
theorem r_12_init_589 : RP M_X12_init 589 12 100 592 := ⟨225, _, by decide +kernel, rfl, by decide, wd_f12_225, rfl, Or.inr ⟨rfl, rfl, rfl⟩, rfl⟩
theorem r_12_init_592 : RA M_X12_init 592 0 593 := Or.inl ⟨0, by decide +kernel, rfl, rfl⟩
theorem r_12_init_593 : RC M_X12_init 593 24 595 := ⟨⟨by decide, by decide⟩, Or.inr (Or.inl ⟨by decide +kernel, by decide, rfl⟩)⟩
theorem r_12_init_595 : RNA M_X12_init 595 0 597 := ⟨.int, by decide +kernel, rfl, rfl⟩
theorem r_12_init_597 : RP M_X12_init 597 12 103 600 := ⟨228, _, by decide +kernel, rfl, by decide, wd_f12_228, rfl, Or.inr ⟨rfl, rfl, rfl⟩, rfl⟩
theorem r_12_init_600 : RA M_X12_init 600 0 601 := Or.inl ⟨0, by decide +kernel, rfl, rfl⟩
theorem r_12_init_601 : RC M_X12_init 601 4 602 := ⟨⟨by decide, by decide⟩, Or.inl ⟨by decide +kernel, rfl⟩⟩
theorem r_12_init_602 : RNA M_X12_init 602 0 604 := ⟨.int, by decide +kernel, rfl, rfl⟩
theorem r_12_init_604 : RP M_X12_init 604 12 106 607 := ⟨231, _, by decide +kernel, rfl, by decide, wd_f12_231, rfl, Or.inr ⟨rfl, rfl, rfl⟩, rfl⟩
theorem r_12_init_607 : RA M_X12_init 607 0 608 := Or.inl ⟨0, by decide +kernel, rfl, rfl⟩
theorem r_12_init_608 : RC M_X12_init 608 4 609 := ⟨⟨by decide, by decide⟩, Or.inl ⟨by decide +kernel, rfl⟩⟩
theorem r_12_init_609 : RNA M_X12_init 609 0 611 := ⟨.int, by decide +kernel, rfl, rfl⟩
theorem r_12_init_611 : RP M_X12_init 611 12 107 614 := ⟨234, _, by decide +kernel, rfl, by decide, wd_f12_234, rfl, Or.inr ⟨rfl, rfl, rfl⟩, rfl⟩
theorem r_12_init_614 : RA M_X12_init 614 0 615 := Or.inl ⟨0, by decide +kernel, rfl, rfl⟩
theorem r_12_init_615 : RC M_X12_init 615 240 618 := ⟨⟨by decide, by decide⟩, Or.inr (Or.inr (Or.inl ⟨by decide +kernel, by decide, rfl⟩))⟩
theorem r_12_init_618 : RNA M_X12_init 618 0 620 := ⟨.int, by decide +kernel, rfl, rfl⟩
theorem r_12_init_620 : RP M_X12_init 620 12 108 623 := ⟨237, _, by decide +kernel, rfl, by decide, wd_f12_237, rfl, Or.inr ⟨rfl, rfl, rfl⟩, rfl⟩
theorem r_12_init_645 : RL M_X12_init 645 1 646 := Or.inl ⟨1, by decide +kernel, rfl, rfl⟩
theorem r_12_init_646 : RC M_X12_init 646 26 648 := ⟨⟨by decide, by decide⟩, Or.inr (Or.inl ⟨by decide +kernel, by decide, rfl⟩)⟩
theorem r_12_init_648 : RB M_X12_init 648 (.if_icmp .gt) 669 651 := ⟨21, by decide +kernel, rfl, rfl⟩
theorem r_12_init_669 : RW M_X12_init 669 .return_ 670 1 := ⟨by decide +kernel, rfl⟩
theorem r_12_init_651 : RA M_X12_init 651 0 652 := Or.inl ⟨0, by decide +kernel, rfl, rfl⟩
theorem r_12_init_652 : RG M_X12_init 652 12 56 655 := ⟨130, _, by decide +kernel, rfl, by decide, wd_f12_130, rfl, rfl⟩
theorem r_12_init_655 : RC M_X12_init 655 27 657 := ⟨⟨by decide, by decide⟩, Or.inr (Or.inl ⟨by decide +kernel, by decide, rfl⟩)⟩
theorem r_12_init_657 : RL M_X12_init 657 1 658 := Or.inl ⟨1, by decide +kernel, rfl, rfl⟩
theorem r_12_init_658 : RW M_X12_init 658 .imul 659 1 := ⟨by decide +kernel, rfl⟩
theorem r_12_init_659 : RL M_X12_init 659 1 660 := Or.inl ⟨1, by decide +kernel, rfl, rfl⟩
theorem r_12_init_660 : RW M_X12_init 660 .iadd 661 1 := ⟨by decide +kernel, rfl⟩
theorem r_12_init_661 : RC M_X12_init 661 1 662 := ⟨⟨by decide, by decide⟩, Or.inl ⟨by decide +kernel, rfl⟩⟩
theorem r_12_init_662 : RW M_X12_init 662 .bastore 663 1 := ⟨by decide +kernel, rfl⟩
theorem r_12_init_663 : RI M_X12_init 663 1 1 666 := ⟨by decide, by decide +kernel, rfl⟩
theorem r_12_init_666 : RB M_X12_init 666 .goto 645 669 := ⟨(-21), by decide +kernel, rfl, rfl⟩
theorem r_12_init_625 : RL M_X12_init 625 1 626 := Or.inl ⟨1, by decide +kernel, rfl, rfl⟩
theorem r_12_init_626 : RC M_X12_init 626 4 627 := ⟨⟨by decide, by decide⟩, Or.inl ⟨by decide +kernel, rfl⟩⟩
theorem r_12_init_627 : RB M_X12_init 627 (.if_icmp .ge) 643 630 := ⟨16, by decide +kernel, rfl, rfl⟩
theorem r_12_init_643 : RC M_X12_init 643 1 644 := ⟨⟨by decide, by decide⟩, Or.inl ⟨by decide +kernel, rfl⟩⟩
theorem r_12_init_644 : RS M_X12_init 644 1 645 := ⟨by decide, Or.inl ⟨1, by decide +kernel, rfl, rfl⟩⟩
theorem r_12_init_630 : RA M_X12_init 630 0 631 := Or.inl ⟨0, by decide +kernel, rfl, rfl⟩
theorem r_12_init_631 : RG M_X12_init 631 12 106 634 := ⟨231, _, by decide +kernel, rfl, by decide, wd_f12_231, rfl, rfl⟩
theorem r_12_init_634 : RL M_X12_init 634 1 635 := Or.inl ⟨1, by decide +kernel, rfl, rfl⟩
theorem r_12_init_635 : RC M_X12_init 635 (-1) 636 := ⟨⟨by decide, by decide⟩, Or.inl ⟨by decide +kernel, rfl⟩⟩
theorem r_12_init_636 : RW M_X12_init 636 .iastore 637 1 := ⟨by decide +kernel, rfl⟩
theorem r_12_init_637 : RI M_X12_init 637 1 1 640 := ⟨by decide, by decide +kernel, rfl⟩
theorem r_12_init_640 : RB M_X12_init 640 .goto 625 643 := ⟨(-15), by decide +kernel, rfl, rfl⟩
theorem r_12_init_623 : RC M_X12_init 623 0 624 := ⟨⟨by decide, by decide⟩, Or.inl ⟨by decide +kernel, rfl⟩⟩
theorem r_12_init_624 : RS M_X12_init 624 1 625 := ⟨by decide, Or.inl ⟨1, by decide +kernel, rfl, rfl⟩⟩
def lcN : List PR := (11, 0) :: lc11
def lcM : List PR := (((((((((((((((((((((((((((((((((((((((((((((((((((((((((((((((((((((((((lcN ++ [(200, 0)]) ++ [(201, 0)]) ++ [(202, 0)]) ++ [(203, 0)]) ++ [(204, 0)]) ++ [(205, 0)]) ++ [(206, 0)]) ++ [(207, 0)]) ++ [(208, 0)]) ++ [(209, 0)]) ++ [(210, 0)]) ++ [(211, 0)]) ++ [(212, 0)]) ++ [(213, 0)]) ++ [(214, 0)]) ++ [(215, 0)]) ++ [(216, 0)]) ++ [(217, 0)]) ++ [(218, 0)]) ++ [(219, 0)]) ++ [(220, 0)]) ++ [(221, 0)]) ++ [(222, 0)]) ++ [(223, 0)]) ++ [(224, 0)]) ++ [(225, 0)]) ++ [(226, 0)]) ++ [(227, 0)]) ++ [(228, 0)]) ++ [(229, 0)]) ++ [(230, 0)]) ++ [(231, 0)]) ++ [(232, 0)]) ++ [(233, 0)]) ++ [(234, 0)]) ++ [(235, 0)]) ++ [(236, 0)]) ++ [(237, 0)]) ++ [(238, 0)]) ++ [(239, 0)]) ++ [(240, 0)]) ++ [(241, 0)]) ++ [(242, 0)]) ++ [(243, 0)]) ++ [(244, 0)]) ++ [(245, 0)]) ++ [(246, 0)]) ++ [(247, 0)]) ++ [(248, 0)]) ++ [(249, 0)]) ++ [(250, 0)]) ++ [(251, 0)]) ++ [(252, 0)]) ++ [(253, 0)]) ++ [(254, 0)]) ++ [(255, 0)]) ++ [(256, 0)]) ++ [(257, 0)]) ++ [(258, 0)]) ++ [(259, 0)]) ++ [(260, 0)]) ++ [(261, 0)]) ++ [(262, 0)]) ++ [(263, 0)]) ++ [(264, 0)]) ++ [(265, 0)]) ++ [(266, 0)]) ++ [(267, 0)]) ++ [(268, 0)]) ++ [(269, 0)]) ++ [(270, 0)]) ++ [(271, 0)]) ++ [(272, 0)])
def gs : PH := uA (uA gt 270 0 (tsF 4)) 240 0 (cbF 27)
theorem sub_W {w : Wo} {G : PH} {ci N : Nat} {done : List Nat} {L Lc : List PR} (h0 : w.1.2 = 0) (hs : shp ci = (0, N, ci)) (hck : chkD G ci N done = true) (hL : L = Lc) (hc : ((cs 0).all fun p => decide (p ∈ (ci, 0) :: Lc)) = true) : ∀ x ∈ wl w G, x ∈ wW w G ci N done L := by
  subst hL
  intro x hx
  unfold wl at hx
  rw [h0] at hx
  obtain ⟨p, hp, rfl⟩ := List.mem_map.mp hx
  have h1 : p ∈ (ci, 0) :: L := by simpa using List.all_eq_true.mp hc p hp
  unfold wW
  rw [fD_all hs (chk_ok hck)]
  exact List.mem_map.mpr ⟨p, h1, rfl⟩
theorem wl_D {w : Wo} {G : PH} (hw : AlOk w) (h0 : w.1.2 = 0) : va_D (Ab w) (wl w G) := by
  unfold wl
  rw [h0]
  exact vaD_off (L := cs 0) hw (by decide +kernel) (by decide +kernel)
set_option maxRecDepth 10000 in
set_option maxHeartbeats 4000000 in
theorem bw_M {l : Launch} {w : Wo} (hw : AlOk w) (h0 : w.1.2 = 0) {Φ : Wo → Option PV → PH → Prop} (K0 : PWg l w M_X12_init 2 2000 2000 623 [some (vR 12 0), none] [] gt Φ) : BWg l w M_X12_init 2 2000 (12 * 2000) (Ab w) (Qcw Φ w) 233 0 0 0 (wW w gt 12 109 [] lcN) [some (vR 12 0), none] [] := by
  refine b_aload r_12_init_0 rfl (b_objInit r_12_init_1 (by decide) rfl ?_)
  refine b_itA (len := 16) (t := 0) (ck := 200) r_12_init_4 r_12_init_5 r_12_init_7 r_12_init_9 sh200 (by decide) (Nat.le_of_ble_eq_true rfl) (fun _ => rfl) (al_at hw (by decide) (by decide +kernel)) (fval_R fs_12_1 (by decide)) rfl (by decide) rfl ⟨Nat.le_of_ble_eq_true rfl, Nat.le_of_ble_eq_true rfl⟩ (kc' := 1) (ks' := 16) rfl rfl ?_
  refine b_itA (len := 16) (t := 0) (ck := 201) r_12_init_12 r_12_init_13 r_12_init_15 r_12_init_17 sh201 (by decide) (Nat.le_of_ble_eq_true rfl) (fun _ => rfl) (al_at hw (by decide) (by decide +kernel)) (fval_R fs_12_2 (by decide)) rfl (by decide) rfl ⟨Nat.le_of_ble_eq_true rfl, Nat.le_of_ble_eq_true rfl⟩ (kc' := 2) (ks' := 32) rfl rfl ?_
  refine b_itA (len := 324) (t := 0) (ck := 202) r_12_init_20 r_12_init_21 r_12_init_24 r_12_init_26 sh202 (by decide) (Nat.le_of_ble_eq_true rfl) (fun _ => rfl) (al_at hw (by decide) (by decide +kernel)) (fval_R fs_12_4 (by decide)) rfl (by decide) rfl ⟨Nat.le_of_ble_eq_true rfl, Nat.le_of_ble_eq_true rfl⟩ (kc' := 3) (ks' := 356) rfl rfl ?_
  refine b_itA (len := 10) (t := 0) (ck := 203) r_12_init_29 r_12_init_30 r_12_init_32 r_12_init_34 sh203 (by decide) (Nat.le_of_ble_eq_true rfl) (fun _ => rfl) (al_at hw (by decide) (by decide +kernel)) (fval_R fs_12_5 (by decide)) rfl (by decide) rfl ⟨Nat.le_of_ble_eq_true rfl, Nat.le_of_ble_eq_true rfl⟩ (kc' := 4) (ks' := 366) rfl rfl ?_
  refine b_itA (len := 150) (t := 0) (ck := 204) r_12_init_37 r_12_init_38 r_12_init_41 r_12_init_43 sh204 (by decide) (Nat.le_of_ble_eq_true rfl) (fun _ => rfl) (al_at hw (by decide) (by decide +kernel)) (fval_R fs_12_6 (by decide)) rfl (by decide) rfl ⟨Nat.le_of_ble_eq_true rfl, Nat.le_of_ble_eq_true rfl⟩ (kc' := 5) (ks' := 516) rfl rfl ?_
  refine b_itA (len := 150) (t := 0) (ck := 205) r_12_init_46 r_12_init_47 r_12_init_50 r_12_init_52 sh205 (by decide) (Nat.le_of_ble_eq_true rfl) (fun _ => rfl) (al_at hw (by decide) (by decide +kernel)) (fval_R fs_12_7 (by decide)) rfl (by decide) rfl ⟨Nat.le_of_ble_eq_true rfl, Nat.le_of_ble_eq_true rfl⟩ (kc' := 6) (ks' := 666) rfl rfl ?_
  refine b_itA (len := 150) (t := 0) (ck := 206) r_12_init_55 r_12_init_56 r_12_init_59 r_12_init_61 sh206 (by decide) (Nat.le_of_ble_eq_true rfl) (fun _ => rfl) (al_at hw (by decide) (by decide +kernel)) (fval_R fs_12_8 (by decide)) rfl (by decide) rfl ⟨Nat.le_of_ble_eq_true rfl, Nat.le_of_ble_eq_true rfl⟩ (kc' := 7) (ks' := 816) rfl rfl ?_
  refine b_itA (len := 150) (t := 0) (ck := 207) r_12_init_64 r_12_init_65 r_12_init_68 r_12_init_70 sh207 (by decide) (Nat.le_of_ble_eq_true rfl) (fun _ => rfl) (al_at hw (by decide) (by decide +kernel)) (fval_R fs_12_9 (by decide)) rfl (by decide) rfl ⟨Nat.le_of_ble_eq_true rfl, Nat.le_of_ble_eq_true rfl⟩ (kc' := 8) (ks' := 966) rfl rfl ?_
  refine b_itA (len := 150) (t := 0) (ck := 208) r_12_init_73 r_12_init_74 r_12_init_77 r_12_init_79 sh208 (by decide) (Nat.le_of_ble_eq_true rfl) (fun _ => rfl) (al_at hw (by decide) (by decide +kernel)) (fval_R fs_12_10 (by decide)) rfl (by decide) rfl ⟨Nat.le_of_ble_eq_true rfl, Nat.le_of_ble_eq_true rfl⟩ (kc' := 9) (ks' := 1116) rfl rfl ?_
  refine b_itA (len := 150) (t := 0) (ck := 209) r_12_init_82 r_12_init_83 r_12_init_86 r_12_init_88 sh209 (by decide) (Nat.le_of_ble_eq_true rfl) (fun _ => rfl) (al_at hw (by decide) (by decide +kernel)) (fval_R fs_12_11 (by decide)) rfl (by decide) rfl ⟨Nat.le_of_ble_eq_true rfl, Nat.le_of_ble_eq_true rfl⟩ (kc' := 10) (ks' := 1266) rfl rfl ?_
  refine b_itA (len := 150) (t := 0) (ck := 210) r_12_init_91 r_12_init_92 r_12_init_95 r_12_init_97 sh210 (by decide) (Nat.le_of_ble_eq_true rfl) (fun _ => rfl) (al_at hw (by decide) (by decide +kernel)) (fval_R fs_12_12 (by decide)) rfl (by decide) rfl ⟨Nat.le_of_ble_eq_true rfl, Nat.le_of_ble_eq_true rfl⟩ (kc' := 11) (ks' := 1416) rfl rfl ?_
  refine b_itA (len := 150) (t := 0) (ck := 211) r_12_init_100 r_12_init_101 r_12_init_104 r_12_init_106 sh211 (by decide) (Nat.le_of_ble_eq_true rfl) (fun _ => rfl) (al_at hw (by decide) (by decide +kernel)) (fval_R fs_12_13 (by decide)) rfl (by decide) rfl ⟨Nat.le_of_ble_eq_true rfl, Nat.le_of_ble_eq_true rfl⟩ (kc' := 12) (ks' := 1566) rfl rfl ?_
  refine b_itA (len := 150) (t := 0) (ck := 212) r_12_init_109 r_12_init_110 r_12_init_113 r_12_init_115 sh212 (by decide) (Nat.le_of_ble_eq_true rfl) (fun _ => rfl) (al_at hw (by decide) (by decide +kernel)) (fval_R fs_12_14 (by decide)) rfl (by decide) rfl ⟨Nat.le_of_ble_eq_true rfl, Nat.le_of_ble_eq_true rfl⟩ (kc' := 13) (ks' := 1716) rfl rfl ?_
  refine b_itA (len := 150) (t := 0) (ck := 213) r_12_init_118 r_12_init_119 r_12_init_122 r_12_init_124 sh213 (by decide) (Nat.le_of_ble_eq_true rfl) (fun _ => rfl) (al_at hw (by decide) (by decide +kernel)) (fval_R fs_12_15 (by decide)) rfl (by decide) rfl ⟨Nat.le_of_ble_eq_true rfl, Nat.le_of_ble_eq_true rfl⟩ (kc' := 14) (ks' := 1866) rfl rfl ?_
  refine b_itA (len := 150) (t := 0) (ck := 214) r_12_init_127 r_12_init_128 r_12_init_131 r_12_init_133 sh214 (by decide) (Nat.le_of_ble_eq_true rfl) (fun _ => rfl) (al_at hw (by decide) (by decide +kernel)) (fval_R fs_12_16 (by decide)) rfl (by decide) rfl ⟨Nat.le_of_ble_eq_true rfl, Nat.le_of_ble_eq_true rfl⟩ (kc' := 15) (ks' := 2016) rfl rfl ?_
  refine b_itA (len := 400) (t := 0) (ck := 215) r_12_init_136 r_12_init_137 r_12_init_140 r_12_init_142 sh215 (by decide) (Nat.le_of_ble_eq_true rfl) (fun _ => rfl) (al_at hw (by decide) (by decide +kernel)) (fval_R fs_12_18 (by decide)) rfl (by decide) rfl ⟨Nat.le_of_ble_eq_true rfl, Nat.le_of_ble_eq_true rfl⟩ (kc' := 16) (ks' := 2416) rfl rfl ?_
  refine b_itA (len := 400) (t := 0) (ck := 216) r_12_init_145 r_12_init_146 r_12_init_149 r_12_init_151 sh216 (by decide) (Nat.le_of_ble_eq_true rfl) (fun _ => rfl) (al_at hw (by decide) (by decide +kernel)) (fval_R fs_12_19 (by decide)) rfl (by decide) rfl ⟨Nat.le_of_ble_eq_true rfl, Nat.le_of_ble_eq_true rfl⟩ (kc' := 17) (ks' := 2816) rfl rfl ?_
  refine b_itA (len := 400) (t := 0) (ck := 217) r_12_init_154 r_12_init_155 r_12_init_158 r_12_init_160 sh217 (by decide) (Nat.le_of_ble_eq_true rfl) (fun _ => rfl) (al_at hw (by decide) (by decide +kernel)) (fval_R fs_12_20 (by decide)) rfl (by decide) rfl ⟨Nat.le_of_ble_eq_true rfl, Nat.le_of_ble_eq_true rfl⟩ (kc' := 18) (ks' := 3216) rfl rfl ?_
  refine b_itA (len := 400) (t := 0) (ck := 218) r_12_init_163 r_12_init_164 r_12_init_167 r_12_init_169 sh218 (by decide) (Nat.le_of_ble_eq_true rfl) (fun _ => rfl) (al_at hw (by decide) (by decide +kernel)) (fval_R fs_12_21 (by decide)) rfl (by decide) rfl ⟨Nat.le_of_ble_eq_true rfl, Nat.le_of_ble_eq_true rfl⟩ (kc' := 19) (ks' := 3616) rfl rfl ?_
  refine b_itA (len := 300) (t := 0) (ck := 219) r_12_init_172 r_12_init_173 r_12_init_176 r_12_init_178 sh219 (by decide) (Nat.le_of_ble_eq_true rfl) (fun _ => rfl) (al_at hw (by decide) (by decide +kernel)) (fval_R fs_12_23 (by decide)) rfl (by decide) rfl ⟨Nat.le_of_ble_eq_true rfl, Nat.le_of_ble_eq_true rfl⟩ (kc' := 20) (ks' := 3916) rfl rfl ?_
  refine b_itA (len := 300) (t := 0) (ck := 220) r_12_init_181 r_12_init_182 r_12_init_185 r_12_init_187 sh220 (by decide) (Nat.le_of_ble_eq_true rfl) (fun _ => rfl) (al_at hw (by decide) (by decide +kernel)) (fval_R fs_12_24 (by decide)) rfl (by decide) rfl ⟨Nat.le_of_ble_eq_true rfl, Nat.le_of_ble_eq_true rfl⟩ (kc' := 21) (ks' := 4216) rfl rfl ?_
  refine b_itA (len := 300) (t := 0) (ck := 221) r_12_init_190 r_12_init_191 r_12_init_194 r_12_init_196 sh221 (by decide) (Nat.le_of_ble_eq_true rfl) (fun _ => rfl) (al_at hw (by decide) (by decide +kernel)) (fval_R fs_12_25 (by decide)) rfl (by decide) rfl ⟨Nat.le_of_ble_eq_true rfl, Nat.le_of_ble_eq_true rfl⟩ (kc' := 22) (ks' := 4516) rfl rfl ?_
  refine b_itA (len := 300) (t := 0) (ck := 222) r_12_init_199 r_12_init_200 r_12_init_203 r_12_init_205 sh222 (by decide) (Nat.le_of_ble_eq_true rfl) (fun _ => rfl) (al_at hw (by decide) (by decide +kernel)) (fval_R fs_12_26 (by decide)) rfl (by decide) rfl ⟨Nat.le_of_ble_eq_true rfl, Nat.le_of_ble_eq_true rfl⟩ (kc' := 23) (ks' := 4816) rfl rfl ?_
  refine b_itA (len := 60) (t := 0) (ck := 223) r_12_init_208 r_12_init_209 r_12_init_211 r_12_init_213 sh223 (by decide) (Nat.le_of_ble_eq_true rfl) (fun _ => rfl) (al_at hw (by decide) (by decide +kernel)) (fval_R fs_12_28 (by decide)) rfl (by decide) rfl ⟨Nat.le_of_ble_eq_true rfl, Nat.le_of_ble_eq_true rfl⟩ (kc' := 24) (ks' := 4876) rfl rfl ?_
  refine b_itA (len := 40) (t := 0) (ck := 224) r_12_init_216 r_12_init_217 r_12_init_219 r_12_init_221 sh224 (by decide) (Nat.le_of_ble_eq_true rfl) (fun _ => rfl) (al_at hw (by decide) (by decide +kernel)) (fval_R fs_12_30 (by decide)) rfl (by decide) rfl ⟨Nat.le_of_ble_eq_true rfl, Nat.le_of_ble_eq_true rfl⟩ (kc' := 25) (ks' := 4916) rfl rfl ?_
  refine b_itA (len := 40) (t := 0) (ck := 225) r_12_init_224 r_12_init_225 r_12_init_227 r_12_init_229 sh225 (by decide) (Nat.le_of_ble_eq_true rfl) (fun _ => rfl) (al_at hw (by decide) (by decide +kernel)) (fval_R fs_12_31 (by decide)) rfl (by decide) rfl ⟨Nat.le_of_ble_eq_true rfl, Nat.le_of_ble_eq_true rfl⟩ (kc' := 26) (ks' := 4956) rfl rfl ?_
  refine b_itA (len := 40) (t := 0) (ck := 226) r_12_init_232 r_12_init_233 r_12_init_235 r_12_init_237 sh226 (by decide) (Nat.le_of_ble_eq_true rfl) (fun _ => rfl) (al_at hw (by decide) (by decide +kernel)) (fval_R fs_12_32 (by decide)) rfl (by decide) rfl ⟨Nat.le_of_ble_eq_true rfl, Nat.le_of_ble_eq_true rfl⟩ (kc' := 27) (ks' := 4996) rfl rfl ?_
  refine b_itA (len := 40) (t := 0) (ck := 227) r_12_init_240 r_12_init_241 r_12_init_243 r_12_init_245 sh227 (by decide) (Nat.le_of_ble_eq_true rfl) (fun _ => rfl) (al_at hw (by decide) (by decide +kernel)) (fval_R fs_12_33 (by decide)) rfl (by decide) rfl ⟨Nat.le_of_ble_eq_true rfl, Nat.le_of_ble_eq_true rfl⟩ (kc' := 28) (ks' := 5036) rfl rfl ?_
  refine b_itA (len := 160) (t := 0) (ck := 228) r_12_init_248 r_12_init_249 r_12_init_252 r_12_init_254 sh228 (by decide) (Nat.le_of_ble_eq_true rfl) (fun _ => rfl) (al_at hw (by decide) (by decide +kernel)) (fval_R fs_12_35 (by decide)) rfl (by decide) rfl ⟨Nat.le_of_ble_eq_true rfl, Nat.le_of_ble_eq_true rfl⟩ (kc' := 29) (ks' := 5196) rfl rfl ?_
  refine b_itA (len := 3200) (t := 0) (ck := 229) r_12_init_257 r_12_init_258 r_12_init_261 r_12_init_263 sh229 (by decide) (Nat.le_of_ble_eq_true rfl) (fun _ => rfl) (al_at hw (by decide) (by decide +kernel)) (fval_R fs_12_37 (by decide)) rfl (by decide) rfl ⟨Nat.le_of_ble_eq_true rfl, Nat.le_of_ble_eq_true rfl⟩ (kc' := 30) (ks' := 8396) rfl rfl ?_
  refine b_itA (len := 20) (t := 0) (ck := 230) r_12_init_266 r_12_init_267 r_12_init_269 r_12_init_271 sh230 (by decide) (Nat.le_of_ble_eq_true rfl) (fun _ => rfl) (al_at hw (by decide) (by decide +kernel)) (fval_R fs_12_38 (by decide)) rfl (by decide) rfl ⟨Nat.le_of_ble_eq_true rfl, Nat.le_of_ble_eq_true rfl⟩ (kc' := 31) (ks' := 8416) rfl rfl ?_
  refine b_itA (len := 20) (t := 0) (ck := 231) r_12_init_274 r_12_init_275 r_12_init_277 r_12_init_279 sh231 (by decide) (Nat.le_of_ble_eq_true rfl) (fun _ => rfl) (al_at hw (by decide) (by decide +kernel)) (fval_R fs_12_39 (by decide)) rfl (by decide) rfl ⟨Nat.le_of_ble_eq_true rfl, Nat.le_of_ble_eq_true rfl⟩ (kc' := 32) (ks' := 8436) rfl rfl ?_
  refine b_itA (len := 20) (t := 0) (ck := 232) r_12_init_282 r_12_init_283 r_12_init_285 r_12_init_287 sh232 (by decide) (Nat.le_of_ble_eq_true rfl) (fun _ => rfl) (al_at hw (by decide) (by decide +kernel)) (fval_R fs_12_40 (by decide)) rfl (by decide) rfl ⟨Nat.le_of_ble_eq_true rfl, Nat.le_of_ble_eq_true rfl⟩ (kc' := 33) (ks' := 8456) rfl rfl ?_
  refine b_itA (len := 20) (t := 0) (ck := 233) r_12_init_290 r_12_init_291 r_12_init_293 r_12_init_295 sh233 (by decide) (Nat.le_of_ble_eq_true rfl) (fun _ => rfl) (al_at hw (by decide) (by decide +kernel)) (fval_R fs_12_41 (by decide)) rfl (by decide) rfl ⟨Nat.le_of_ble_eq_true rfl, Nat.le_of_ble_eq_true rfl⟩ (kc' := 34) (ks' := 8476) rfl rfl ?_
  refine b_itA (len := 18) (t := 0) (ck := 234) r_12_init_298 r_12_init_299 r_12_init_301 r_12_init_303 sh234 (by decide) (Nat.le_of_ble_eq_true rfl) (fun _ => rfl) (al_at hw (by decide) (by decide +kernel)) (fval_R fs_12_43 (by decide)) rfl (by decide) rfl ⟨Nat.le_of_ble_eq_true rfl, Nat.le_of_ble_eq_true rfl⟩ (kc' := 35) (ks' := 8494) rfl rfl ?_
  refine b_itA (len := 9) (t := 0) (ck := 235) r_12_init_306 r_12_init_307 r_12_init_309 r_12_init_311 sh235 (by decide) (Nat.le_of_ble_eq_true rfl) (fun _ => rfl) (al_at hw (by decide) (by decide +kernel)) (fval_R fs_12_49 (by decide)) rfl (by decide) rfl ⟨Nat.le_of_ble_eq_true rfl, Nat.le_of_ble_eq_true rfl⟩ (kc' := 36) (ks' := 8503) rfl rfl ?_
  refine b_itA (len := 100) (t := 0) (ck := 236) r_12_init_314 r_12_init_315 r_12_init_317 r_12_init_319 sh236 (by decide) (Nat.le_of_ble_eq_true rfl) (fun _ => rfl) (al_at hw (by decide) (by decide +kernel)) (fval_R fs_12_51 (by decide)) rfl (by decide) rfl ⟨Nat.le_of_ble_eq_true rfl, Nat.le_of_ble_eq_true rfl⟩ (kc' := 37) (ks' := 8603) rfl rfl ?_
  refine b_itA (len := 100) (t := 0) (ck := 237) r_12_init_322 r_12_init_323 r_12_init_325 r_12_init_327 sh237 (by decide) (Nat.le_of_ble_eq_true rfl) (fun _ => rfl) (al_at hw (by decide) (by decide +kernel)) (fval_R fs_12_52 (by decide)) rfl (by decide) rfl ⟨Nat.le_of_ble_eq_true rfl, Nat.le_of_ble_eq_true rfl⟩ (kc' := 38) (ks' := 8703) rfl rfl ?_
  refine b_itA (len := 100) (t := 0) (ck := 238) r_12_init_330 r_12_init_331 r_12_init_333 r_12_init_335 sh238 (by decide) (Nat.le_of_ble_eq_true rfl) (fun _ => rfl) (al_at hw (by decide) (by decide +kernel)) (fval_R fs_12_53 (by decide)) rfl (by decide) rfl ⟨Nat.le_of_ble_eq_true rfl, Nat.le_of_ble_eq_true rfl⟩ (kc' := 39) (ks' := 8803) rfl rfl ?_
  refine b_itA (len := 100) (t := 0) (ck := 239) r_12_init_338 r_12_init_339 r_12_init_341 r_12_init_343 sh239 (by decide) (Nat.le_of_ble_eq_true rfl) (fun _ => rfl) (al_at hw (by decide) (by decide +kernel)) (fval_R fs_12_54 (by decide)) rfl (by decide) rfl ⟨Nat.le_of_ble_eq_true rfl, Nat.le_of_ble_eq_true rfl⟩ (kc' := 40) (ks' := 8903) rfl rfl ?_
  refine b_itA (len := 729) (t := 2) (ck := 240) r_12_init_346 r_12_init_347 r_12_init_350 r_12_init_352 sh240 (by decide) (Nat.le_of_ble_eq_true rfl) (fun _ => rfl) (al_at hw (by decide) (by decide +kernel)) (fval_R fs_12_56 (by decide)) rfl (by decide) rfl ⟨Nat.le_of_ble_eq_true rfl, Nat.le_of_ble_eq_true rfl⟩ (kc' := 41) (ks' := 9632) rfl rfl ?_
  refine b_itI (v := (-1)) r_12_init_355 r_12_init_356 r_12_init_357 (fval_V fs_12_57 (by decide) rfl) rfl (by decide) rfl ?_
  refine b_itA (len := 100) (t := 2) (ck := 241) r_12_init_360 r_12_init_361 r_12_init_363 r_12_init_365 sh241 (by decide) (Nat.le_of_ble_eq_true rfl) (fun _ => rfl) (al_at hw (by decide) (by decide +kernel)) (fval_R fs_12_59 (by decide)) rfl (by decide) rfl ⟨Nat.le_of_ble_eq_true rfl, Nat.le_of_ble_eq_true rfl⟩ (kc' := 42) (ks' := 9732) rfl rfl ?_
  refine b_itA (len := 14) (t := 0) (ck := 242) r_12_init_368 r_12_init_369 r_12_init_371 r_12_init_373 sh242 (by decide) (Nat.le_of_ble_eq_true rfl) (fun _ => rfl) (al_at hw (by decide) (by decide +kernel)) (fval_R fs_12_60 (by decide)) rfl (by decide) rfl ⟨Nat.le_of_ble_eq_true rfl, Nat.le_of_ble_eq_true rfl⟩ (kc' := 43) (ks' := 9746) rfl rfl ?_
  refine b_itA (len := 2) (t := 0) (ck := 243) r_12_init_376 r_12_init_377 r_12_init_378 r_12_init_380 sh243 (by decide) (Nat.le_of_ble_eq_true rfl) (fun _ => rfl) (al_at hw (by decide) (by decide +kernel)) (fval_R fs_12_61 (by decide)) rfl (by decide) rfl ⟨Nat.le_of_ble_eq_true rfl, Nat.le_of_ble_eq_true rfl⟩ (kc' := 44) (ks' := 9748) rfl rfl ?_
  refine b_itI (v := 10) r_12_init_383 r_12_init_384 r_12_init_386 (fval_V fs_12_62 (by decide) rfl) rfl (by decide) rfl ?_
  refine b_itI (v := (-1)) r_12_init_389 r_12_init_390 r_12_init_391 (fval_V fs_12_63 (by decide) rfl) rfl (by decide) rfl ?_
  refine b_itA (len := 2) (t := 0) (ck := 244) r_12_init_394 r_12_init_395 r_12_init_396 r_12_init_398 sh244 (by decide) (Nat.le_of_ble_eq_true rfl) (fun _ => rfl) (al_at hw (by decide) (by decide +kernel)) (fval_R fs_12_64 (by decide)) rfl (by decide) rfl ⟨Nat.le_of_ble_eq_true rfl, Nat.le_of_ble_eq_true rfl⟩ (kc' := 45) (ks' := 9750) rfl rfl ?_
  refine b_itA (len := 14) (t := 2) (ck := 245) r_12_init_401 r_12_init_402 r_12_init_404 r_12_init_406 sh245 (by decide) (Nat.le_of_ble_eq_true rfl) (fun _ => rfl) (al_at hw (by decide) (by decide +kernel)) (fval_R fs_12_65 (by decide)) rfl (by decide) rfl ⟨Nat.le_of_ble_eq_true rfl, Nat.le_of_ble_eq_true rfl⟩ (kc' := 46) (ks' := 9764) rfl rfl ?_
  refine b_itA (len := 28) (t := 0) (ck := 246) r_12_init_409 r_12_init_410 r_12_init_412 r_12_init_414 sh246 (by decide) (Nat.le_of_ble_eq_true rfl) (fun _ => rfl) (al_at hw (by decide) (by decide +kernel)) (fval_R fs_12_66 (by decide)) rfl (by decide) rfl ⟨Nat.le_of_ble_eq_true rfl, Nat.le_of_ble_eq_true rfl⟩ (kc' := 47) (ks' := 9792) rfl rfl ?_
  refine b_itA (len := 150) (t := 2) (ck := 247) r_12_init_417 r_12_init_418 r_12_init_421 r_12_init_423 sh247 (by decide) (Nat.le_of_ble_eq_true rfl) (fun _ => rfl) (al_at hw (by decide) (by decide +kernel)) (fval_R fs_12_67 (by decide)) rfl (by decide) rfl ⟨Nat.le_of_ble_eq_true rfl, Nat.le_of_ble_eq_true rfl⟩ (kc' := 48) (ks' := 9942) rfl rfl ?_
  refine b_itA (len := 6) (t := 0) (ck := 248) r_12_init_426 r_12_init_427 r_12_init_429 r_12_init_431 sh248 (by decide) (Nat.le_of_ble_eq_true rfl) (fun _ => rfl) (al_at hw (by decide) (by decide +kernel)) (fval_R fs_12_68 (by decide)) rfl (by decide) rfl ⟨Nat.le_of_ble_eq_true rfl, Nat.le_of_ble_eq_true rfl⟩ (kc' := 49) (ks' := 9948) rfl rfl ?_
  refine b_itA (len := 6) (t := 0) (ck := 249) r_12_init_434 r_12_init_435 r_12_init_437 r_12_init_439 sh249 (by decide) (Nat.le_of_ble_eq_true rfl) (fun _ => rfl) (al_at hw (by decide) (by decide +kernel)) (fval_R fs_12_69 (by decide)) rfl (by decide) rfl ⟨Nat.le_of_ble_eq_true rfl, Nat.le_of_ble_eq_true rfl⟩ (kc' := 50) (ks' := 9954) rfl rfl ?_
  refine b_itA (len := 6) (t := 0) (ck := 250) r_12_init_442 r_12_init_443 r_12_init_445 r_12_init_447 sh250 (by decide) (Nat.le_of_ble_eq_true rfl) (fun _ => rfl) (al_at hw (by decide) (by decide +kernel)) (fval_R fs_12_70 (by decide)) rfl (by decide) rfl ⟨Nat.le_of_ble_eq_true rfl, Nat.le_of_ble_eq_true rfl⟩ (kc' := 51) (ks' := 9960) rfl rfl ?_
  refine b_itA (len := 6) (t := 0) (ck := 251) r_12_init_450 r_12_init_451 r_12_init_453 r_12_init_455 sh251 (by decide) (Nat.le_of_ble_eq_true rfl) (fun _ => rfl) (al_at hw (by decide) (by decide +kernel)) (fval_R fs_12_72 (by decide)) rfl (by decide) rfl ⟨Nat.le_of_ble_eq_true rfl, Nat.le_of_ble_eq_true rfl⟩ (kc' := 52) (ks' := 9966) rfl rfl ?_
  refine b_itA (len := 6) (t := 0) (ck := 252) r_12_init_458 r_12_init_459 r_12_init_461 r_12_init_463 sh252 (by decide) (Nat.le_of_ble_eq_true rfl) (fun _ => rfl) (al_at hw (by decide) (by decide +kernel)) (fval_R fs_12_73 (by decide)) rfl (by decide) rfl ⟨Nat.le_of_ble_eq_true rfl, Nat.le_of_ble_eq_true rfl⟩ (kc' := 53) (ks' := 9972) rfl rfl ?_
  refine b_itA (len := 6) (t := 0) (ck := 253) r_12_init_466 r_12_init_467 r_12_init_469 r_12_init_471 sh253 (by decide) (Nat.le_of_ble_eq_true rfl) (fun _ => rfl) (al_at hw (by decide) (by decide +kernel)) (fval_R fs_12_74 (by decide)) rfl (by decide) rfl ⟨Nat.le_of_ble_eq_true rfl, Nat.le_of_ble_eq_true rfl⟩ (kc' := 54) (ks' := 9978) rfl rfl ?_
  refine b_itA (len := 6) (t := 0) (ck := 254) r_12_init_474 r_12_init_475 r_12_init_477 r_12_init_479 sh254 (by decide) (Nat.le_of_ble_eq_true rfl) (fun _ => rfl) (al_at hw (by decide) (by decide +kernel)) (fval_R fs_12_75 (by decide)) rfl (by decide) rfl ⟨Nat.le_of_ble_eq_true rfl, Nat.le_of_ble_eq_true rfl⟩ (kc' := 55) (ks' := 9984) rfl rfl ?_
  refine b_itA (len := 6) (t := 0) (ck := 255) r_12_init_482 r_12_init_483 r_12_init_485 r_12_init_487 sh255 (by decide) (Nat.le_of_ble_eq_true rfl) (fun _ => rfl) (al_at hw (by decide) (by decide +kernel)) (fval_R fs_12_76 (by decide)) rfl (by decide) rfl ⟨Nat.le_of_ble_eq_true rfl, Nat.le_of_ble_eq_true rfl⟩ (kc' := 56) (ks' := 9990) rfl rfl ?_
  refine b_itA (len := 20) (t := 0) (ck := 256) r_12_init_490 r_12_init_491 r_12_init_493 r_12_init_495 sh256 (by decide) (Nat.le_of_ble_eq_true rfl) (fun _ => rfl) (al_at hw (by decide) (by decide +kernel)) (fval_R fs_12_82 (by decide)) rfl (by decide) rfl ⟨Nat.le_of_ble_eq_true rfl, Nat.le_of_ble_eq_true rfl⟩ (kc' := 57) (ks' := 10010) rfl rfl ?_
  refine b_itA (len := 2) (t := 0) (ck := 257) r_12_init_498 r_12_init_499 r_12_init_500 r_12_init_502 sh257 (by decide) (Nat.le_of_ble_eq_true rfl) (fun _ => rfl) (al_at hw (by decide) (by decide +kernel)) (fval_R fs_12_83 (by decide)) rfl (by decide) rfl ⟨Nat.le_of_ble_eq_true rfl, Nat.le_of_ble_eq_true rfl⟩ (kc' := 58) (ks' := 10012) rfl rfl ?_
  refine b_itA (len := 12100) (t := 0) (ck := 258) r_12_init_505 r_12_init_506 r_12_init_509 r_12_init_511 sh258 (by decide) (Nat.le_of_ble_eq_true rfl) (fun _ => rfl) (al_at hw (by decide) (by decide +kernel)) (fval_R fs_12_84 (by decide)) rfl (by decide) rfl ⟨Nat.le_of_ble_eq_true rfl, Nat.le_of_ble_eq_true rfl⟩ (kc' := 59) (ks' := 22112) rfl rfl ?_
  refine b_itA (len := 200) (t := 0) (ck := 259) r_12_init_514 r_12_init_515 r_12_init_518 r_12_init_520 sh259 (by decide) (Nat.le_of_ble_eq_true rfl) (fun _ => rfl) (al_at hw (by decide) (by decide +kernel)) (fval_R fs_12_86 (by decide)) rfl (by decide) rfl ⟨Nat.le_of_ble_eq_true rfl, Nat.le_of_ble_eq_true rfl⟩ (kc' := 60) (ks' := 22312) rfl rfl ?_
  refine b_itA (len := 5) (t := 0) (ck := 260) r_12_init_523 r_12_init_524 r_12_init_525 r_12_init_527 sh260 (by decide) (Nat.le_of_ble_eq_true rfl) (fun _ => rfl) (al_at hw (by decide) (by decide +kernel)) (fval_R fs_12_88 (by decide)) rfl (by decide) rfl ⟨Nat.le_of_ble_eq_true rfl, Nat.le_of_ble_eq_true rfl⟩ (kc' := 61) (ks' := 22317) rfl rfl ?_
  refine b_itA (len := 5) (t := 0) (ck := 261) r_12_init_530 r_12_init_531 r_12_init_532 r_12_init_534 sh261 (by decide) (Nat.le_of_ble_eq_true rfl) (fun _ => rfl) (al_at hw (by decide) (by decide +kernel)) (fval_R fs_12_89 (by decide)) rfl (by decide) rfl ⟨Nat.le_of_ble_eq_true rfl, Nat.le_of_ble_eq_true rfl⟩ (kc' := 62) (ks' := 22322) rfl rfl ?_
  refine b_itA (len := 5) (t := 0) (ck := 262) r_12_init_537 r_12_init_538 r_12_init_539 r_12_init_541 sh262 (by decide) (Nat.le_of_ble_eq_true rfl) (fun _ => rfl) (al_at hw (by decide) (by decide +kernel)) (fval_R fs_12_90 (by decide)) rfl (by decide) rfl ⟨Nat.le_of_ble_eq_true rfl, Nat.le_of_ble_eq_true rfl⟩ (kc' := 63) (ks' := 22327) rfl rfl ?_
  refine b_itA (len := 150) (t := 0) (ck := 263) r_12_init_544 r_12_init_545 r_12_init_548 r_12_init_550 sh263 (by decide) (Nat.le_of_ble_eq_true rfl) (fun _ => rfl) (al_at hw (by decide) (by decide +kernel)) (fval_R fs_12_92 (by decide)) rfl (by decide) rfl ⟨Nat.le_of_ble_eq_true rfl, Nat.le_of_ble_eq_true rfl⟩ (kc' := 64) (ks' := 22477) rfl rfl ?_
  refine b_itA (len := 6) (t := 0) (ck := 264) r_12_init_553 r_12_init_554 r_12_init_556 r_12_init_558 sh264 (by decide) (Nat.le_of_ble_eq_true rfl) (fun _ => rfl) (al_at hw (by decide) (by decide +kernel)) (fval_R fs_12_94 (by decide)) rfl (by decide) rfl ⟨Nat.le_of_ble_eq_true rfl, Nat.le_of_ble_eq_true rfl⟩ (kc' := 65) (ks' := 22483) rfl rfl ?_
  refine b_itA (len := 6) (t := 0) (ck := 265) r_12_init_561 r_12_init_562 r_12_init_564 r_12_init_566 sh265 (by decide) (Nat.le_of_ble_eq_true rfl) (fun _ => rfl) (al_at hw (by decide) (by decide +kernel)) (fval_R fs_12_95 (by decide)) rfl (by decide) rfl ⟨Nat.le_of_ble_eq_true rfl, Nat.le_of_ble_eq_true rfl⟩ (kc' := 66) (ks' := 22489) rfl rfl ?_
  refine b_itA (len := 4) (t := 0) (ck := 266) r_12_init_569 r_12_init_570 r_12_init_571 r_12_init_573 sh266 (by decide) (Nat.le_of_ble_eq_true rfl) (fun _ => rfl) (al_at hw (by decide) (by decide +kernel)) (fval_R fs_12_97 (by decide)) rfl (by decide) rfl ⟨Nat.le_of_ble_eq_true rfl, Nat.le_of_ble_eq_true rfl⟩ (kc' := 67) (ks' := 22493) rfl rfl ?_
  refine b_itA (len := 6) (t := 0) (ck := 267) r_12_init_576 r_12_init_577 r_12_init_579 r_12_init_581 sh267 (by decide) (Nat.le_of_ble_eq_true rfl) (fun _ => rfl) (al_at hw (by decide) (by decide +kernel)) (fval_R fs_12_99 (by decide)) rfl (by decide) rfl ⟨Nat.le_of_ble_eq_true rfl, Nat.le_of_ble_eq_true rfl⟩ (kc' := 68) (ks' := 22499) rfl rfl ?_
  refine b_itA (len := 6) (t := 0) (ck := 268) r_12_init_584 r_12_init_585 r_12_init_587 r_12_init_589 sh268 (by decide) (Nat.le_of_ble_eq_true rfl) (fun _ => rfl) (al_at hw (by decide) (by decide +kernel)) (fval_R fs_12_100 (by decide)) rfl (by decide) rfl ⟨Nat.le_of_ble_eq_true rfl, Nat.le_of_ble_eq_true rfl⟩ (kc' := 69) (ks' := 22505) rfl rfl ?_
  refine b_itA (len := 24) (t := 0) (ck := 269) r_12_init_592 r_12_init_593 r_12_init_595 r_12_init_597 sh269 (by decide) (Nat.le_of_ble_eq_true rfl) (fun _ => rfl) (al_at hw (by decide) (by decide +kernel)) (fval_R fs_12_103 (by decide)) rfl (by decide) rfl ⟨Nat.le_of_ble_eq_true rfl, Nat.le_of_ble_eq_true rfl⟩ (kc' := 70) (ks' := 22529) rfl rfl ?_
  refine b_itA (len := 4) (t := 0) (ck := 270) r_12_init_600 r_12_init_601 r_12_init_602 r_12_init_604 sh270 (by decide) (Nat.le_of_ble_eq_true rfl) (fun _ => rfl) (al_at hw (by decide) (by decide +kernel)) (fval_R fs_12_106 (by decide)) rfl (by decide) rfl ⟨Nat.le_of_ble_eq_true rfl, Nat.le_of_ble_eq_true rfl⟩ (kc' := 71) (ks' := 22533) rfl rfl ?_
  refine b_itA (len := 4) (t := 0) (ck := 271) r_12_init_607 r_12_init_608 r_12_init_609 r_12_init_611 sh271 (by decide) (Nat.le_of_ble_eq_true rfl) (fun _ => rfl) (al_at hw (by decide) (by decide +kernel)) (fval_R fs_12_107 (by decide)) rfl (by decide) rfl ⟨Nat.le_of_ble_eq_true rfl, Nat.le_of_ble_eq_true rfl⟩ (kc' := 72) (ks' := 22537) rfl rfl ?_
  refine b_itA (len := 240) (t := 0) (ck := 272) r_12_init_614 r_12_init_615 r_12_init_618 r_12_init_620 sh272 (by decide) (Nat.le_of_ble_eq_true rfl) (fun _ => rfl) (al_at hw (by decide) (by decide +kernel)) (fval_R fs_12_108 (by decide)) rfl (by decide) rfl ⟨Nat.le_of_ble_eq_true rfl, Nat.le_of_ble_eq_true rfl⟩ (kc' := 73) (ks' := 22777) rfl rfl ?_
  refine b_toPW (Nat.le_of_ble_eq_true rfl) (Nat.le_of_ble_eq_true rfl) (sub_W (Lc := lcM) h0 sh12 (by decide +kernel) rfl (by decide +kernel)) (wl_D hw h0) ⟨by rw [h0]; exact okG_gt, fun v hv => absurd hv List.not_mem_nil, fun v hv => ?_⟩ K0
  rcases List.mem_cons.mp hv with h | h
  · cases h
    exact lv_of rw12 (Int.le_refl 0) (by decide)
  · rcases List.mem_cons.mp h with h | h
    · cases h
    · exact absurd h List.not_mem_nil
set_option maxRecDepth 10000 in
theorem tail_M {l : Launch} {w : Wo} {P : Option PV → PH → Prop} (hP : P none gs) : PWg l w M_X12_init 2 2000 2000 623 [some (vR 12 0), none] [] gt (fun w' r G' => w' = w ∧ P r G') := by
  have L645 : ∀ (nF : Nat) (i : Int), 1 ≤ i → i ≤ 27 → (27 - i).toNat < nF → PWg l w M_X12_init 2 2000 2000 645 [some (vR 12 0), some (vI (i))] [] (uA (uA gt 270 0 (tsF 4)) 240 0 (cbF i)) (fun w' r G' => w' = w ∧ P r G') := by
    intro nF
    induction nF with
    | zero => intro i _ _ h; exact absurd h (Nat.not_lt_zero _)
    | succ nF ih =>
      intro i i0 i1 hM
      refine pw_iload r_12_init_645 rfl (pw_const r_12_init_646 (pw_icmp_gt r_12_init_648 (fun h => ?_) (fun h => ?_)))
      · rw [show i = 27 by omega]
        exact pw_vret r_12_init_669 rfl (Nat.le_refl _) ⟨rfl, hP⟩
      · refine pw_aload r_12_init_651 rfl (pw_getR r_12_init_652 fs_12_56 (by decide) (pw_const r_12_init_655 (pw_iload r_12_init_657 rfl (pw_imul r_12_init_658 (by omega) (pw_iload r_12_init_659 rfl (pw_iadd r_12_init_660 (by omega) (pw_const r_12_init_661 (pw_zast r_12_init_662 sh240 (by omega) (by omega) (Or.inr rfl) ?_))))))))
        rw [sA_uA, cb_step i0]
        refine pw_iinc (b := 0) (ls' := [some (vR 12 0), some (vI (i + 1))]) r_12_init_663 rfl rfl (by omega) rfl (pw_goto r_12_init_666 ?_)
        exact ih (i + 1) (by omega) (by omega) (by omega)
  have L625 : ∀ (nF : Nat) (i : Int), 0 ≤ i → i ≤ 4 → (4 - i).toNat < nF → PWg l w M_X12_init 2 2000 2000 625 [some (vR 12 0), some (vI (i))] [] (uA gt 270 0 (tsF i)) (fun w' r G' => w' = w ∧ P r G') := by
    intro nF
    induction nF with
    | zero => intro i _ _ h; exact absurd h (Nat.not_lt_zero _)
    | succ nF ih =>
      intro i i0 i1 hM
      refine pw_iload r_12_init_625 rfl (pw_const r_12_init_626 (pw_icmp_ge r_12_init_627 (fun h => ?_) (fun h => ?_)))
      · rw [show i = 4 by omega]
        refine pw_const r_12_init_643 (pw_istore (ls' := [some (vR 12 0), some (vI (1))]) r_12_init_644 rfl rfl ?_)
        have h0 := L645 28 1 (by decide) (by decide) (by decide)
        rw [cb_0] at h0
        exact h0
      · refine pw_aload r_12_init_630 rfl (pw_getR r_12_init_631 fs_12_106 (by decide) (pw_iload r_12_init_634 rfl (pw_const r_12_init_635 (pw_iast r_12_init_636 sh270 (by omega) (by omega) ?_))))
        rw [sA_uA, ts_step i0]
        refine pw_iinc (b := 0) (ls' := [some (vR 12 0), some (vI (i + 1))]) r_12_init_637 rfl rfl (by omega) rfl (pw_goto r_12_init_640 ?_)
        exact ih (i + 1) (by omega) (by omega) (by omega)
  refine pw_const r_12_init_623 (pw_istore (ls' := [some (vR 12 0), some (vI (0))]) r_12_init_624 rfl rfl ?_)
  have h0 := L625 5 0 (by decide) (by decide) (by decide)
  rw [tsm_0] at h0
  exact h0
theorem ctor_M {l : Launch} {w : Wo} (hw : AlOk w) (h0 : w.1.2 = 0) {P : Option PV → PH → Prop} (hP : P none gs) : Met l M_X12_init.1 (wsM M_X12_init) (bR 2 2000 (12 * 2000)) (PcL w 233 [vR 12 0] (wW w gt 12 109 [] lcN)) (Qcw (fun w' r G' => w' = w ∧ P r G') w) 2000 (12 * 2000) (Ab w) :=
  met_bw (by decide +kernel) rfl (Nat.le_of_ble_eq_true rfl) (vaD_fst (b := ((12, 0) :: lcN).map (eA w gt)) rfl (vaD_off hw (by decide +kernel) (by decide +kernel))) (bw_M hw h0 (tail_M hP))

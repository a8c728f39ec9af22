theorem wd_clLaw_7 : Cond.classLink R_law 7 RX11 ∈ UW := UW1_at 22 (by decide +kernel) rfl
theorem wd_clLaw_10 : Cond.classLink R_law 10 RX12 ∈ UW := UW7_at 62 (by decide +kernel) rfl
theorem wd_ini11 : Cond.initialized RX11 ∈ UW := UW1_at 1 (by decide +kernel) rfl
theorem wd_ini12 : Cond.initialized RX12 ∈ UW := UW1_at 12 (by decide +kernel) rfl
theorem wd_mLaw_9 : Cond.methodLink R_law 9 M_X11_init.1 ∈ UW := UW1_at 24 (by decide +kernel) rfl
theorem wd_mLaw_12 : Cond.methodLink R_law 12 M_X12_init.1 ∈ UW := UW7_at 64 (by decide +kernel) rfl
theorem wd_s11_days : Cond.selects M_X11_days.1.cls M_X11_days.1 M_X11_days.1 ∈ UW := UW3_at 28 (by decide +kernel) rfl
theorem wd_mLaw_13 : Cond.methodLink R_law 13 M_X11_days.1 ∈ UW := UW3_at 26 (by decide +kernel) rfl
theorem wd_s12_days : Cond.selects M_X12_days.1.cls M_X12_days.1 M_X12_days.1 ∈ UW := UW8_at 193 (by decide +kernel) rfl
theorem wd_mLaw_17 : Cond.methodLink R_law 17 M_X12_days.1 ∈ UW := UW8_at 191 (by decide +kernel) rfl
theorem wd_s11_camp : Cond.selects M_X11_camp.1.cls M_X11_camp.1 M_X11_camp.1 ∈ UW := UW3_at 59 (by decide +kernel) rfl
theorem wd_mLaw_18 : Cond.methodLink R_law 18 M_X11_camp.1 ∈ UW := UW3_at 57 (by decide +kernel) rfl
theorem wd_s12_camp : Cond.selects M_X12_camp.1.cls M_X12_camp.1 M_X12_camp.1 ∈ UW := UW8_at 158 (by decide +kernel) rfl
theorem wd_mLaw_22 : Cond.methodLink R_law 22 M_X12_camp.1 ∈ UW := UW8_at 156 (by decide +kernel) rfl
theorem wd_s11_road : Cond.selects M_X11_road.1.cls M_X11_road.1 M_X11_road.1 ∈ UW := UW3_at 71 (by decide +kernel) rfl
theorem wd_mLaw_23 : Cond.methodLink R_law 23 M_X11_road.1 ∈ UW := UW3_at 69 (by decide +kernel) rfl
theorem wd_s12_road : Cond.selects M_X12_road.1.cls M_X12_road.1 M_X12_road.1 ∈ UW := UW8_at 168 (by decide +kernel) rfl
theorem wd_mLaw_27 : Cond.methodLink R_law 27 M_X12_road.1 ∈ UW := UW8_at 166 (by decide +kernel) rfl
theorem wd_s11_far : Cond.selects M_X11_far.1.cls M_X11_far.1 M_X11_far.1 ∈ UW := UW3_at 90 (by decide +kernel) rfl
theorem wd_mLaw_28 : Cond.methodLink R_law 28 M_X11_far.1 ∈ UW := UW3_at 88 (by decide +kernel) rfl
theorem wd_s12_far : Cond.selects M_X12_far.1.cls M_X12_far.1 M_X12_far.1 ∈ UW := UW8_at 180 (by decide +kernel) rfl
theorem wd_mLaw_31 : Cond.methodLink R_law 31 M_X12_far.1 ∈ UW := UW8_at 178 (by decide +kernel) rfl
theorem wd_s11_rise : Cond.selects M_X11_rise.1.cls M_X11_rise.1 M_X11_rise.1 ∈ UW := UW3_at 107 (by decide +kernel) rfl
theorem wd_mLaw_32 : Cond.methodLink R_law 32 M_X11_rise.1 ∈ UW := UW3_at 105 (by decide +kernel) rfl
theorem wd_s12_rise : Cond.selects M_X12_rise.1.cls M_X12_rise.1 M_X12_rise.1 ∈ UW := UW8_at 189 (by decide +kernel) rfl
theorem wd_mLaw_35 : Cond.methodLink R_law 35 M_X12_rise.1 ∈ UW := UW8_at 187 (by decide +kernel) rfl
theorem wd_s11_person : Cond.selects M_X11_person.1.cls M_X11_person.1 M_X11_person.1 ∈ UW := UW3_at 115 (by decide +kernel) rfl
theorem wd_mLaw_36 : Cond.methodLink R_law 36 M_X11_person.1 ∈ UW := UW3_at 113 (by decide +kernel) rfl
theorem wd_s12_person : Cond.selects M_X12_person.1.cls M_X12_person.1 M_X12_person.1 ∈ UW := UW8_at 205 (by decide +kernel) rfl
theorem wd_mLaw_40 : Cond.methodLink R_law 40 M_X12_person.1 ∈ UW := UW8_at 203 (by decide +kernel) rfl
theorem wd_s11_move : Cond.selects M_X11_move.1.cls M_X11_move.1 M_X11_move.1 ∈ UW := UW3_at 213 (by decide +kernel) rfl
theorem wd_mLaw_41 : Cond.methodLink R_law 41 M_X11_move.1 ∈ UW := UW3_at 211 (by decide +kernel) rfl
theorem wd_s12_move : Cond.selects M_X12_move.1.cls M_X12_move.1 M_X12_move.1 ∈ UW := UW8_at 221 (by decide +kernel) rfl
theorem wd_mLaw_44 : Cond.methodLink R_law 44 M_X12_move.1 ∈ UW := UW8_at 219 (by decide +kernel) rfl
theorem wd_s11_heal : Cond.selects M_X11_heal.1.cls M_X11_heal.1 M_X11_heal.1 ∈ UW := UW3_at 223 (by decide +kernel) rfl
theorem wd_mLaw_45 : Cond.methodLink R_law 45 M_X11_heal.1 ∈ UW := UW3_at 221 (by decide +kernel) rfl
theorem wd_s12_heal : Cond.selects M_X12_heal.1.cls M_X12_heal.1 M_X12_heal.1 ∈ UW := UW8_at 225 (by decide +kernel) rfl
theorem wd_mLaw_48 : Cond.methodLink R_law 48 M_X12_heal.1 ∈ UW := UW8_at 223 (by decide +kernel) rfl
theorem wd_s11_become : Cond.selects M_X11_become.1.cls M_X11_become.1 M_X11_become.1 ∈ UW := UW3_at 231 (by decide +kernel) rfl
theorem wd_mLaw_49 : Cond.methodLink R_law 49 M_X11_become.1 ∈ UW := UW3_at 229 (by decide +kernel) rfl
theorem wd_s12_become : Cond.selects M_X12_become.1.cls M_X12_become.1 M_X12_become.1 ∈ UW := UW8_at 229 (by decide +kernel) rfl
theorem wd_mLaw_52 : Cond.methodLink R_law 52 M_X12_become.1 ∈ UW := UW8_at 227 (by decide +kernel) rfl
theorem wd_s11_of : Cond.selects M_X11_of.1.cls M_X11_of.1 M_X11_of.1 ∈ UW := UW4_at 3 (by decide +kernel) rfl
theorem wd_mLaw_53 : Cond.methodLink R_law 53 M_X11_of.1 ∈ UW := UW4_at 1 (by decide +kernel) rfl
theorem wd_s12_of : Cond.selects M_X12_of.1.cls M_X12_of.1 M_X12_of.1 ∈ UW := UW8_at 233 (by decide +kernel) rfl
theorem wd_mLaw_56 : Cond.methodLink R_law 56 M_X12_of.1 ∈ UW := UW8_at 231 (by decide +kernel) rfl
theorem wd_s11_stay : Cond.selects M_X11_stay.1.cls M_X11_stay.1 M_X11_stay.1 ∈ UW := UW4_at 16 (by decide +kernel) rfl
theorem wd_mLaw_57 : Cond.methodLink R_law 57 M_X11_stay.1 ∈ UW := UW4_at 14 (by decide +kernel) rfl
theorem wd_s12_stay : Cond.selects M_X12_stay.1.cls M_X12_stay.1 M_X12_stay.1 ∈ UW := UW9_at 2 (by decide +kernel) rfl
theorem wd_mLaw_60 : Cond.methodLink R_law 60 M_X12_stay.1 ∈ UW := UW9_at 0 (by decide +kernel) rfl
theorem wd_s11_fact : Cond.selects M_X11_fact.1.cls M_X11_fact.1 M_X11_fact.1 ∈ UW := UW4_at 24 (by decide +kernel) rfl
theorem wd_mLaw_61 : Cond.methodLink R_law 61 M_X11_fact.1 ∈ UW := UW4_at 22 (by decide +kernel) rfl
theorem wd_s12_fact : Cond.selects M_X12_fact.1.cls M_X12_fact.1 M_X12_fact.1 ∈ UW := UW9_at 6 (by decide +kernel) rfl
theorem wd_mLaw_64 : Cond.methodLink R_law 64 M_X12_fact.1 ∈ UW := UW9_at 4 (by decide +kernel) rfl
theorem wd_s11_letter : Cond.selects M_X11_letter.1.cls M_X11_letter.1 M_X11_letter.1 ∈ UW := UW4_at 35 (by decide +kernel) rfl
theorem wd_mLaw_65 : Cond.methodLink R_law 65 M_X11_letter.1 ∈ UW := UW4_at 33 (by decide +kernel) rfl
theorem wd_s12_letter : Cond.selects M_X12_letter.1.cls M_X12_letter.1 M_X12_letter.1 ∈ UW := UW9_at 10 (by decide +kernel) rfl
theorem wd_mLaw_69 : Cond.methodLink R_law 69 M_X12_letter.1 ∈ UW := UW9_at 8 (by decide +kernel) rfl
theorem wd_s11_known : Cond.selects M_X11_known.1.cls M_X11_known.1 M_X11_known.1 ∈ UW := UW4_at 43 (by decide +kernel) rfl
theorem wd_mLaw_70 : Cond.methodLink R_law 70 M_X11_known.1 ∈ UW := UW4_at 41 (by decide +kernel) rfl
theorem wd_s12_known : Cond.selects M_X12_known.1.cls M_X12_known.1 M_X12_known.1 ∈ UW := UW9_at 14 (by decide +kernel) rfl
theorem wd_mLaw_74 : Cond.methodLink R_law 74 M_X12_known.1 ∈ UW := UW9_at 12 (by decide +kernel) rfl
theorem wd_s11_promise : Cond.selects M_X11_promise.1.cls M_X11_promise.1 M_X11_promise.1 ∈ UW := UW4_at 60 (by decide +kernel) rfl
theorem wd_mLaw_75 : Cond.methodLink R_law 75 M_X11_promise.1 ∈ UW := UW4_at 58 (by decide +kernel) rfl
theorem wd_s12_promise : Cond.selects M_X12_promise.1.cls M_X12_promise.1 M_X12_promise.1 ∈ UW := UW9_at 29 (by decide +kernel) rfl
theorem wd_mLaw_78 : Cond.methodLink R_law 78 M_X12_promise.1 ∈ UW := UW9_at 27 (by decide +kernel) rfl
theorem wd_s11_ofPromise : Cond.selects M_X11_ofPromise.1.cls M_X11_ofPromise.1 M_X11_ofPromise.1 ∈ UW := UW4_at 68 (by decide +kernel) rfl
theorem wd_mLaw_79 : Cond.methodLink R_law 79 M_X11_ofPromise.1 ∈ UW := UW4_at 66 (by decide +kernel) rfl
theorem wd_s12_ofPromise : Cond.selects M_X12_ofPromise.1.cls M_X12_ofPromise.1 M_X12_ofPromise.1 ∈ UW := UW9_at 33 (by decide +kernel) rfl
theorem wd_mLaw_82 : Cond.methodLink R_law 82 M_X12_ofPromise.1 ∈ UW := UW9_at 31 (by decide +kernel) rfl
theorem wd_s11_broken : Cond.selects M_X11_broken.1.cls M_X11_broken.1 M_X11_broken.1 ∈ UW := UW4_at 84 (by decide +kernel) rfl
theorem wd_mLaw_83 : Cond.methodLink R_law 83 M_X11_broken.1 ∈ UW := UW4_at 82 (by decide +kernel) rfl
theorem wd_s12_broken : Cond.selects M_X12_broken.1.cls M_X12_broken.1 M_X12_broken.1 ∈ UW := UW9_at 45 (by decide +kernel) rfl
theorem wd_mLaw_86 : Cond.methodLink R_law 86 M_X12_broken.1 ∈ UW := UW9_at 43 (by decide +kernel) rfl
theorem wd_s11_feed : Cond.selects M_X11_feed.1.cls M_X11_feed.1 M_X11_feed.1 ∈ UW := UW4_at 96 (by decide +kernel) rfl
theorem wd_mLaw_87 : Cond.methodLink R_law 87 M_X11_feed.1 ∈ UW := UW4_at 94 (by decide +kernel) rfl
theorem wd_s12_feed : Cond.selects M_X12_feed.1.cls M_X12_feed.1 M_X12_feed.1 ∈ UW := UW9_at 53 (by decide +kernel) rfl
theorem wd_mLaw_90 : Cond.methodLink R_law 90 M_X12_feed.1 ∈ UW := UW9_at 51 (by decide +kernel) rfl
theorem wd_s11_text : Cond.selects M_X11_text.1.cls M_X11_text.1 M_X11_text.1 ∈ UW := UW4_at 105 (by decide +kernel) rfl
theorem wd_mLaw_91 : Cond.methodLink R_law 91 M_X11_text.1 ∈ UW := UW4_at 103 (by decide +kernel) rfl
theorem wd_s12_text : Cond.selects M_X12_text.1.cls M_X12_text.1 M_X12_text.1 ∈ UW := UW9_at 57 (by decide +kernel) rfl
theorem wd_mLaw_94 : Cond.methodLink R_law 94 M_X12_text.1 ∈ UW := UW9_at 55 (by decide +kernel) rfl
theorem wd_s11_inForce : Cond.selects M_X11_inForce.1.cls M_X11_inForce.1 M_X11_inForce.1 ∈ UW := UW5_at 0 (by decide +kernel) rfl
theorem wd_mLaw_95 : Cond.methodLink R_law 95 M_X11_inForce.1 ∈ UW := UW4_at 238 (by decide +kernel) rfl
theorem wd_s12_inForce : Cond.selects M_X12_inForce.1.cls M_X12_inForce.1 M_X12_inForce.1 ∈ UW := UW9_at 107 (by decide +kernel) rfl
theorem wd_mLaw_98 : Cond.methodLink R_law 98 M_X12_inForce.1 ∈ UW := UW9_at 105 (by decide +kernel) rfl
theorem wd_s11_says : Cond.selects M_X11_says.1.cls M_X11_says.1 M_X11_says.1 ∈ UW := UW5_at 12 (by decide +kernel) rfl
theorem wd_mLaw_99 : Cond.methodLink R_law 99 M_X11_says.1 ∈ UW := UW5_at 10 (by decide +kernel) rfl
theorem wd_s12_says : Cond.selects M_X12_says.1.cls M_X12_says.1 M_X12_says.1 ∈ UW := UW9_at 115 (by decide +kernel) rfl
theorem wd_mLaw_102 : Cond.methodLink R_law 102 M_X12_says.1 ∈ UW := UW9_at 113 (by decide +kernel) rfl
theorem wd_s11_owed : Cond.selects M_X11_owed.1.cls M_X11_owed.1 M_X11_owed.1 ∈ UW := UW5_at 38 (by decide +kernel) rfl
theorem wd_mLaw_103 : Cond.methodLink R_law 103 M_X11_owed.1 ∈ UW := UW5_at 36 (by decide +kernel) rfl
theorem wd_s12_owed : Cond.selects M_X12_owed.1.cls M_X12_owed.1 M_X12_owed.1 ∈ UW := UW9_at 123 (by decide +kernel) rfl
theorem wd_mLaw_106 : Cond.methodLink R_law 106 M_X12_owed.1 ∈ UW := UW9_at 121 (by decide +kernel) rfl
theorem wd_s11_mayStay : Cond.selects M_X11_mayStay.1.cls M_X11_mayStay.1 M_X11_mayStay.1 ∈ UW := UW5_at 46 (by decide +kernel) rfl
theorem wd_mLaw_107 : Cond.methodLink R_law 107 M_X11_mayStay.1 ∈ UW := UW5_at 44 (by decide +kernel) rfl
theorem wd_s12_mayStay : Cond.selects M_X12_mayStay.1.cls M_X12_mayStay.1 M_X12_mayStay.1 ∈ UW := UW9_at 127 (by decide +kernel) rfl
theorem wd_mLaw_110 : Cond.methodLink R_law 110 M_X12_mayStay.1 ∈ UW := UW9_at 125 (by decide +kernel) rfl
theorem wd_s11_worth : Cond.selects M_X11_worth.1.cls M_X11_worth.1 M_X11_worth.1 ∈ UW := UW5_at 58 (by decide +kernel) rfl
theorem wd_mLaw_111 : Cond.methodLink R_law 111 M_X11_worth.1 ∈ UW := UW5_at 56 (by decide +kernel) rfl
theorem wd_s12_worth : Cond.selects M_X12_worth.1.cls M_X12_worth.1 M_X12_worth.1 ∈ UW := UW9_at 135 (by decide +kernel) rfl
theorem wd_mLaw_114 : Cond.methodLink R_law 114 M_X12_worth.1 ∈ UW := UW9_at 133 (by decide +kernel) rfl
theorem wd_s11_row : Cond.selects M_X11_row.1.cls M_X11_row.1 M_X11_row.1 ∈ UW := UW5_at 71 (by decide +kernel) rfl
theorem wd_mLaw_115 : Cond.methodLink R_law 115 M_X11_row.1 ∈ UW := UW5_at 69 (by decide +kernel) rfl
theorem wd_s12_row : Cond.selects M_X12_row.1.cls M_X12_row.1 M_X12_row.1 ∈ UW := UW9_at 143 (by decide +kernel) rfl
theorem wd_mLaw_118 : Cond.methodLink R_law 118 M_X12_row.1 ∈ UW := UW9_at 141 (by decide +kernel) rfl
theorem wd_s11_canBe : Cond.selects M_X11_canBe.1.cls M_X11_canBe.1 M_X11_canBe.1 ∈ UW := UW5_at 84 (by decide +kernel) rfl
theorem wd_mLaw_119 : Cond.methodLink R_law 119 M_X11_canBe.1 ∈ UW := UW5_at 82 (by decide +kernel) rfl
theorem wd_s12_canBe : Cond.selects M_X12_canBe.1.cls M_X12_canBe.1 M_X12_canBe.1 ∈ UW := UW9_at 154 (by decide +kernel) rfl
theorem wd_mLaw_122 : Cond.methodLink R_law 122 M_X12_canBe.1 ∈ UW := UW9_at 152 (by decide +kernel) rfl
theorem wd_s11_same : Cond.selects M_X11_same.1.cls M_X11_same.1 M_X11_same.1 ∈ UW := UW5_at 92 (by decide +kernel) rfl
theorem wd_mLaw_123 : Cond.methodLink R_law 123 M_X11_same.1 ∈ UW := UW5_at 90 (by decide +kernel) rfl
theorem wd_s12_same : Cond.selects M_X12_same.1.cls M_X12_same.1 M_X12_same.1 ∈ UW := UW9_at 158 (by decide +kernel) rfl
theorem wd_mLaw_126 : Cond.methodLink R_law 126 M_X12_same.1 ∈ UW := UW9_at 156 (by decide +kernel) rfl
theorem wd_s11_joined : Cond.selects M_X11_joined.1.cls M_X11_joined.1 M_X11_joined.1 ∈ UW := UW5_at 123 (by decide +kernel) rfl
theorem wd_mLaw_127 : Cond.methodLink R_law 127 M_X11_joined.1 ∈ UW := UW5_at 121 (by decide +kernel) rfl
theorem wd_s12_joined : Cond.selects M_X12_joined.1.cls M_X12_joined.1 M_X12_joined.1 ∈ UW := UW9_at 177 (by decide +kernel) rfl
theorem wd_mLaw_130 : Cond.methodLink R_law 130 M_X12_joined.1 ∈ UW := UW9_at 175 (by decide +kernel) rfl
theorem wd_s11_clash : Cond.selects M_X11_clash.1.cls M_X11_clash.1 M_X11_clash.1 ∈ UW := UW5_at 143 (by decide +kernel) rfl
theorem wd_mLaw_131 : Cond.methodLink R_law 131 M_X11_clash.1 ∈ UW := UW5_at 141 (by decide +kernel) rfl
theorem wd_s12_clash : Cond.selects M_X12_clash.1.cls M_X12_clash.1 M_X12_clash.1 ∈ UW := UW9_at 185 (by decide +kernel) rfl
theorem wd_mLaw_134 : Cond.methodLink R_law 134 M_X12_clash.1 ∈ UW := UW9_at 183 (by decide +kernel) rfl
theorem wd_s11_list : Cond.selects M_X11_list.1.cls M_X11_list.1 M_X11_list.1 ∈ UW := UW5_at 155 (by decide +kernel) rfl
theorem wd_mLaw_135 : Cond.methodLink R_law 135 M_X11_list.1 ∈ UW := UW5_at 153 (by decide +kernel) rfl
theorem wd_s12_list : Cond.selects M_X12_list.1.cls M_X12_list.1 M_X12_list.1 ∈ UW := UW9_at 193 (by decide +kernel) rfl
theorem wd_mLaw_138 : Cond.methodLink R_law 138 M_X12_list.1 ∈ UW := UW9_at 191 (by decide +kernel) rfl
theorem wd_s11_offer : Cond.selects M_X11_offer.1.cls M_X11_offer.1 M_X11_offer.1 ∈ UW := UW5_at 175 (by decide +kernel) rfl
theorem wd_mLaw_139 : Cond.methodLink R_law 139 M_X11_offer.1 ∈ UW := UW5_at 173 (by decide +kernel) rfl
theorem wd_s12_offer : Cond.selects M_X12_offer.1.cls M_X12_offer.1 M_X12_offer.1 ∈ UW := UW9_at 201 (by decide +kernel) rfl
theorem wd_mLaw_142 : Cond.methodLink R_law 142 M_X12_offer.1 ∈ UW := UW9_at 199 (by decide +kernel) rfl
theorem wd_s11_ratio : Cond.selects M_X11_ratio.1.cls M_X11_ratio.1 M_X11_ratio.1 ∈ UW := UW5_at 188 (by decide +kernel) rfl
theorem wd_mLaw_143 : Cond.methodLink R_law 143 M_X11_ratio.1 ∈ UW := UW5_at 186 (by decide +kernel) rfl
theorem wd_s12_ratio : Cond.selects M_X12_ratio.1.cls M_X12_ratio.1 M_X12_ratio.1 ∈ UW := UW9_at 205 (by decide +kernel) rfl
theorem wd_mLaw_146 : Cond.methodLink R_law 146 M_X12_ratio.1 ∈ UW := UW9_at 203 (by decide +kernel) rfl
theorem wd_s11_judge : Cond.selects M_X11_judge.1.cls M_X11_judge.1 M_X11_judge.1 ∈ UW := UW5_at 197 (by decide +kernel) rfl
theorem wd_mLaw_147 : Cond.methodLink R_law 147 M_X11_judge.1 ∈ UW := UW5_at 195 (by decide +kernel) rfl
theorem wd_s12_judge : Cond.selects M_X12_judge.1.cls M_X12_judge.1 M_X12_judge.1 ∈ UW := UW9_at 209 (by decide +kernel) rfl
theorem wd_mLaw_150 : Cond.methodLink R_law 150 M_X12_judge.1 ∈ UW := UW9_at 207 (by decide +kernel) rfl
theorem wd_s11_best : Cond.selects M_X11_best.1.cls M_X11_best.1 M_X11_best.1 ∈ UW := UW6_at 5 (by decide +kernel) rfl
theorem wd_mLaw_151 : Cond.methodLink R_law 151 M_X11_best.1 ∈ UW := UW6_at 3 (by decide +kernel) rfl
theorem wd_s12_best : Cond.selects M_X12_best.1.cls M_X12_best.1 M_X12_best.1 ∈ UW := UW9_at 233 (by decide +kernel) rfl
theorem wd_mLaw_154 : Cond.methodLink R_law 154 M_X12_best.1 ∈ UW := UW9_at 231 (by decide +kernel) rfl
theorem wd_s11_bestOf : Cond.selects M_X11_bestOf.1.cls M_X11_bestOf.1 M_X11_bestOf.1 ∈ UW := UW6_at 28 (by decide +kernel) rfl
theorem wd_mLaw_155 : Cond.methodLink R_law 155 M_X11_bestOf.1 ∈ UW := UW6_at 26 (by decide +kernel) rfl
theorem wd_s12_bestOf : Cond.selects M_X12_bestOf.1.cls M_X12_bestOf.1 M_X12_bestOf.1 ∈ UW := UW10_at 0 (by decide +kernel) rfl
theorem wd_mLaw_158 : Cond.methodLink R_law 158 M_X12_bestOf.1 ∈ UW := UW9_at 238 (by decide +kernel) rfl
theorem wd_s11_load : Cond.selects M_X11_load.1.cls M_X11_load.1 M_X11_load.1 ∈ UW := UW6_at 37 (by decide +kernel) rfl
theorem wd_mLaw_159 : Cond.methodLink R_law 159 M_X11_load.1 ∈ UW := UW6_at 35 (by decide +kernel) rfl
theorem wd_s12_load : Cond.selects M_X12_load.1.cls M_X12_load.1 M_X12_load.1 ∈ UW := UW10_at 4 (by decide +kernel) rfl
theorem wd_mLaw_162 : Cond.methodLink R_law 162 M_X12_load.1 ∈ UW := UW10_at 2 (by decide +kernel) rfl
theorem wd_s11_sail : Cond.selects M_X11_sail.1.cls M_X11_sail.1 M_X11_sail.1 ∈ UW := UW6_at 48 (by decide +kernel) rfl
theorem wd_mLaw_163 : Cond.methodLink R_law 163 M_X11_sail.1 ∈ UW := UW6_at 46 (by decide +kernel) rfl
theorem wd_s12_sail : Cond.selects M_X12_sail.1.cls M_X12_sail.1 M_X12_sail.1 ∈ UW := UW10_at 8 (by decide +kernel) rfl
theorem wd_mLaw_166 : Cond.methodLink R_law 166 M_X12_sail.1 ∈ UW := UW10_at 6 (by decide +kernel) rfl
theorem wd_s11_voyage : Cond.selects M_X11_voyage.1.cls M_X11_voyage.1 M_X11_voyage.1 ∈ UW := UW6_at 74 (by decide +kernel) rfl
theorem wd_mLaw_167 : Cond.methodLink R_law 167 M_X11_voyage.1 ∈ UW := UW6_at 72 (by decide +kernel) rfl
theorem wd_s12_voyage : Cond.selects M_X12_voyage.1.cls M_X12_voyage.1 M_X12_voyage.1 ∈ UW := UW10_at 16 (by decide +kernel) rfl
theorem wd_mLaw_170 : Cond.methodLink R_law 170 M_X12_voyage.1 ∈ UW := UW10_at 14 (by decide +kernel) rfl
theorem wd_s11_walker : Cond.selects M_X11_walker.1.cls M_X11_walker.1 M_X11_walker.1 ∈ UW := UW6_at 82 (by decide +kernel) rfl
theorem wd_mLaw_171 : Cond.methodLink R_law 171 M_X11_walker.1 ∈ UW := UW6_at 80 (by decide +kernel) rfl
theorem wd_s12_walker : Cond.selects M_X12_walker.1.cls M_X12_walker.1 M_X12_walker.1 ∈ UW := UW10_at 20 (by decide +kernel) rfl
theorem wd_mLaw_174 : Cond.methodLink R_law 174 M_X12_walker.1 ∈ UW := UW10_at 18 (by decide +kernel) rfl
theorem wd_s11_bridge : Cond.selects M_X11_bridge.1.cls M_X11_bridge.1 M_X11_bridge.1 ∈ UW := UW6_at 91 (by decide +kernel) rfl
theorem wd_mLaw_175 : Cond.methodLink R_law 175 M_X11_bridge.1 ∈ UW := UW6_at 89 (by decide +kernel) rfl
theorem wd_s12_bridge : Cond.selects M_X12_bridge.1.cls M_X12_bridge.1 M_X12_bridge.1 ∈ UW := UW10_at 24 (by decide +kernel) rfl
theorem wd_mLaw_178 : Cond.methodLink R_law 178 M_X12_bridge.1 ∈ UW := UW10_at 22 (by decide +kernel) rfl
theorem wd_s11_began : Cond.selects M_X11_began.1.cls M_X11_began.1 M_X11_began.1 ∈ UW := UW6_at 121 (by decide +kernel) rfl
theorem wd_mLaw_179 : Cond.methodLink R_law 179 M_X11_began.1 ∈ UW := UW6_at 119 (by decide +kernel) rfl
theorem wd_s12_began : Cond.selects M_X12_began.1.cls M_X12_began.1 M_X12_began.1 ∈ UW := UW10_at 39 (by decide +kernel) rfl
theorem wd_mLaw_182 : Cond.methodLink R_law 182 M_X12_began.1 ∈ UW := UW10_at 37 (by decide +kernel) rfl
theorem wd_s11_sought : Cond.selects M_X11_sought.1.cls M_X11_sought.1 M_X11_sought.1 ∈ UW := UW6_at 129 (by decide +kernel) rfl
theorem wd_mLaw_183 : Cond.methodLink R_law 183 M_X11_sought.1 ∈ UW := UW6_at 127 (by decide +kernel) rfl
theorem wd_s12_sought : Cond.selects M_X12_sought.1.cls M_X12_sought.1 M_X12_sought.1 ∈ UW := UW10_at 43 (by decide +kernel) rfl
theorem wd_mLaw_186 : Cond.methodLink R_law 186 M_X12_sought.1 ∈ UW := UW10_at 41 (by decide +kernel) rfl
theorem wd_s11_find : Cond.selects M_X11_find.1.cls M_X11_find.1 M_X11_find.1 ∈ UW := UW6_at 138 (by decide +kernel) rfl
theorem wd_mLaw_187 : Cond.methodLink R_law 187 M_X11_find.1 ∈ UW := UW6_at 136 (by decide +kernel) rfl
theorem wd_s12_find : Cond.selects M_X12_find.1.cls M_X12_find.1 M_X12_find.1 ∈ UW := UW10_at 47 (by decide +kernel) rfl
theorem wd_mLaw_190 : Cond.methodLink R_law 190 M_X12_find.1 ∈ UW := UW10_at 45 (by decide +kernel) rfl
theorem wd_s11_found : Cond.selects M_X11_found.1.cls M_X11_found.1 M_X11_found.1 ∈ UW := UW6_at 153 (by decide +kernel) rfl
theorem wd_mLaw_191 : Cond.methodLink R_law 191 M_X11_found.1 ∈ UW := UW6_at 151 (by decide +kernel) rfl
theorem wd_s12_found : Cond.selects M_X12_found.1.cls M_X12_found.1 M_X12_found.1 ∈ UW := UW10_at 55 (by decide +kernel) rfl
theorem wd_mLaw_194 : Cond.methodLink R_law 194 M_X12_found.1 ∈ UW := UW10_at 53 (by decide +kernel) rfl
theorem wd_s11_round : Cond.selects M_X11_round.1.cls M_X11_round.1 M_X11_round.1 ∈ UW := UW6_at 161 (by decide +kernel) rfl
theorem wd_mLaw_195 : Cond.methodLink R_law 195 M_X11_round.1 ∈ UW := UW6_at 159 (by decide +kernel) rfl
theorem wd_s12_round : Cond.selects M_X12_round.1.cls M_X12_round.1 M_X12_round.1 ∈ UW := UW10_at 59 (by decide +kernel) rfl
theorem wd_mLaw_198 : Cond.methodLink R_law 198 M_X12_round.1 ∈ UW := UW10_at 57 (by decide +kernel) rfl
theorem wd_s11_aim : Cond.selects M_X11_aim.1.cls M_X11_aim.1 M_X11_aim.1 ∈ UW := UW6_at 170 (by decide +kernel) rfl
theorem wd_mLaw_199 : Cond.methodLink R_law 199 M_X11_aim.1 ∈ UW := UW6_at 168 (by decide +kernel) rfl
theorem wd_s12_aim : Cond.selects M_X12_aim.1.cls M_X12_aim.1 M_X12_aim.1 ∈ UW := UW10_at 63 (by decide +kernel) rfl
theorem wd_mLaw_202 : Cond.methodLink R_law 202 M_X12_aim.1 ∈ UW := UW10_at 61 (by decide +kernel) rfl
theorem wd_s11_order : Cond.selects M_X11_order.1.cls M_X11_order.1 M_X11_order.1 ∈ UW := UW6_at 178 (by decide +kernel) rfl
theorem wd_mLaw_203 : Cond.methodLink R_law 203 M_X11_order.1 ∈ UW := UW6_at 176 (by decide +kernel) rfl
theorem wd_s12_order : Cond.selects M_X12_order.1.cls M_X12_order.1 M_X12_order.1 ∈ UW := UW10_at 67 (by decide +kernel) rfl
theorem wd_mLaw_206 : Cond.methodLink R_law 206 M_X12_order.1 ∈ UW := UW10_at 65 (by decide +kernel) rfl
theorem wd_s11_ordered : Cond.selects M_X11_ordered.1.cls M_X11_ordered.1 M_X11_ordered.1 ∈ UW := UW6_at 205 (by decide +kernel) rfl
theorem wd_mLaw_207 : Cond.methodLink R_law 207 M_X11_ordered.1 ∈ UW := UW6_at 203 (by decide +kernel) rfl
theorem wd_s12_ordered : Cond.selects M_X12_ordered.1.cls M_X12_ordered.1 M_X12_ordered.1 ∈ UW := UW10_at 79 (by decide +kernel) rfl
theorem wd_mLaw_210 : Cond.methodLink R_law 210 M_X12_ordered.1 ∈ UW := UW10_at 77 (by decide +kernel) rfl
theorem wd_s11_act : Cond.selects M_X11_act.1.cls M_X11_act.1 M_X11_act.1 ∈ UW := UW6_at 213 (by decide +kernel) rfl
theorem wd_mLaw_211 : Cond.methodLink R_law 211 M_X11_act.1 ∈ UW := UW6_at 211 (by decide +kernel) rfl
theorem wd_s12_act : Cond.selects M_X12_act.1.cls M_X12_act.1 M_X12_act.1 ∈ UW := UW10_at 83 (by decide +kernel) rfl
theorem wd_mLaw_214 : Cond.methodLink R_law 214 M_X12_act.1 ∈ UW := UW10_at 81 (by decide +kernel) rfl
theorem wd_s11_trace : Cond.selects M_X11_trace.1.cls M_X11_trace.1 M_X11_trace.1 ∈ UW := UW7_at 3 (by decide +kernel) rfl
theorem wd_mLaw_215 : Cond.methodLink R_law 215 M_X11_trace.1 ∈ UW := UW7_at 1 (by decide +kernel) rfl
theorem wd_s12_trace : Cond.selects M_X12_trace.1.cls M_X12_trace.1 M_X12_trace.1 ∈ UW := UW10_at 106 (by decide +kernel) rfl
theorem wd_mLaw_218 : Cond.methodLink R_law 218 M_X12_trace.1 ∈ UW := UW10_at 104 (by decide +kernel) rfl
theorem wd_s11_taken : Cond.selects M_X11_taken.1.cls M_X11_taken.1 M_X11_taken.1 ∈ UW := UW7_at 11 (by decide +kernel) rfl
theorem wd_mLaw_219 : Cond.methodLink R_law 219 M_X11_taken.1 ∈ UW := UW7_at 9 (by decide +kernel) rfl
theorem wd_s12_taken : Cond.selects M_X12_taken.1.cls M_X12_taken.1 M_X12_taken.1 ∈ UW := UW10_at 110 (by decide +kernel) rfl
theorem wd_mLaw_222 : Cond.methodLink R_law 222 M_X12_taken.1 ∈ UW := UW10_at 108 (by decide +kernel) rfl
theorem wd_s11_table : Cond.selects M_X11_table.1.cls M_X11_table.1 M_X11_table.1 ∈ UW := UW7_at 23 (by decide +kernel) rfl
theorem wd_mLaw_223 : Cond.methodLink R_law 223 M_X11_table.1 ∈ UW := UW7_at 21 (by decide +kernel) rfl
theorem wd_s12_table : Cond.selects M_X12_table.1.cls M_X12_table.1 M_X12_table.1 ∈ UW := UW10_at 114 (by decide +kernel) rfl
theorem wd_mLaw_226 : Cond.methodLink R_law 226 M_X12_table.1 ∈ UW := UW10_at 112 (by decide +kernel) rfl
theorem wd_s11_item : Cond.selects M_X11_item.1.cls M_X11_item.1 M_X11_item.1 ∈ UW := UW7_at 31 (by decide +kernel) rfl
theorem wd_mLaw_227 : Cond.methodLink R_law 227 M_X11_item.1 ∈ UW := UW7_at 29 (by decide +kernel) rfl
theorem wd_s12_item : Cond.selects M_X12_item.1.cls M_X12_item.1 M_X12_item.1 ∈ UW := UW10_at 118 (by decide +kernel) rfl
theorem wd_mLaw_230 : Cond.methodLink R_law 230 M_X12_item.1 ∈ UW := UW10_at 116 (by decide +kernel) rfl
theorem wd_s11_read : Cond.selects M_X11_read.1.cls M_X11_read.1 M_X11_read.1 ∈ UW := UW7_at 39 (by decide +kernel) rfl
theorem wd_mLaw_231 : Cond.methodLink R_law 231 M_X11_read.1 ∈ UW := UW7_at 37 (by decide +kernel) rfl
theorem wd_s12_read : Cond.selects M_X12_read.1.cls M_X12_read.1 M_X12_read.1 ∈ UW := UW10_at 122 (by decide +kernel) rfl
theorem wd_mLaw_234 : Cond.methodLink R_law 234 M_X12_read.1 ∈ UW := UW10_at 120 (by decide +kernel) rfl
theorem wd_s11_blank : Cond.selects M_X11_blank.1.cls M_X11_blank.1 M_X11_blank.1 ∈ UW := UW7_at 48 (by decide +kernel) rfl
theorem wd_mLaw_235 : Cond.methodLink R_law 235 M_X11_blank.1 ∈ UW := UW7_at 46 (by decide +kernel) rfl
theorem wd_s12_blank : Cond.selects M_X12_blank.1.cls M_X12_blank.1 M_X12_blank.1 ∈ UW := UW10_at 126 (by decide +kernel) rfl
theorem wd_mLaw_238 : Cond.methodLink R_law 238 M_X12_blank.1 ∈ UW := UW10_at 124 (by decide +kernel) rfl
theorem wd_s11_count : Cond.selects M_X11_count.1.cls M_X11_count.1 M_X11_count.1 ∈ UW := UW7_at 56 (by decide +kernel) rfl
theorem wd_mLaw_239 : Cond.methodLink R_law 239 M_X11_count.1 ∈ UW := UW7_at 54 (by decide +kernel) rfl
theorem wd_s12_count : Cond.selects M_X12_count.1.cls M_X12_count.1 M_X12_count.1 ∈ UW := UW10_at 130 (by decide +kernel) rfl
theorem wd_mLaw_242 : Cond.methodLink R_law 242 M_X12_count.1 ∈ UW := UW10_at 128 (by decide +kernel) rfl

theorem dl_0 : decode code 0 = .ok (.new 7, 3) := by decide +kernel
theorem dl_3 : decode code 3 = .ok (.dup, 1) := by decide +kernel
theorem dl_4 : decode code 4 = .ok (.invokespecial 9, 3) := by decide +kernel
theorem dl_7 : decode code 7 = .ok (.astore_n 1, 1) := by decide +kernel
theorem dl_8 : decode code 8 = .ok (.new 10, 3) := by decide +kernel
theorem dl_11 : decode code 11 = .ok (.dup, 1) := by decide +kernel
theorem dl_12 : decode code 12 = .ok (.invokespecial 12, 3) := by decide +kernel
theorem dl_15 : decode code 15 = .ok (.astore_n 2, 1) := by decide +kernel
theorem dl_16 : decode code 16 = .ok (.iconst 0, 1) := by decide +kernel
theorem dl_17 : decode code 17 = .ok (.istore_n 3, 1) := by decide +kernel
theorem dl_18 : decode code 18 = .ok (.iload_n 3, 1) := by decide +kernel
theorem dl_19 : decode code 19 = .ok (.aload_n 0, 1) := by decide +kernel
theorem dl_20 : decode code 20 = .ok (.arraylength, 1) := by decide +kernel
theorem dl_21 : decode code 21 = .ok (.bipush 6, 2) := by decide +kernel
theorem dl_23 : decode code 23 = .ok (.isub, 1) := by decide +kernel
theorem dl_24 : decode code 24 = .ok (.if_icmp .gt 2182, 3) := by decide +kernel
theorem dl_27 : decode code 27 = .ok (.aload_n 0, 1) := by decide +kernel
theorem dl_28 : decode code 28 = .ok (.iload_n 3, 1) := by decide +kernel
theorem dl_29 : decode code 29 = .ok (.iaload, 1) := by decide +kernel
theorem dl_30 : decode code 30 = .ok (.bipush 63, 2) := by decide +kernel
theorem dl_32 : decode code 32 = .ok (.iand, 1) := by decide +kernel
theorem dl_33 : decode code 33 = .ok (.tableswitch 2167 0 55 #[239, 262, 295, 338, 371, 404, 467, 500, 533, 566, 599, 642, 685, 698, 751, 794, 827, 860, 893, 926, 969, 1032, 1075, 1118, 1171, 1224, 1267, 1310, 1333, 1356, 1409, 1432, 1455, 1488, 1501, 1524, 1567, 1610, 1643, 1676, 1699, 1722, 1765, 1788, 1811, 1844, 1867, 1880, 1903, 1946, 1969, 2002, 2045, 2088, 2121, 2144], 239) := by decide +kernel
theorem dl_2200 : decode code 2200 = .ok (.iinc 3 6, 3) := by decide +kernel
theorem dl_2203 : decode code 2203 = .ok (.goto (-2185), 3) := by decide +kernel
theorem dl_2206 : decode code 2206 = .ok (.iconst 1, 1) := by decide +kernel
theorem dl_2207 : decode code 2207 = .ok (.ireturn, 1) := by decide +kernel
set_option maxRecDepth 10000 in
theorem law_c0 {p : Program} {l : Launch} {e : Env} {s : State} {m : MethodId} {below : List Frame} {meth : Method} {c : Code} {b L : Nat} {xs : Nat → Int32} {H : Heap} {locs : List Loc} {Q : State → Prop} {w : Wo} {G : PH} {i j : Nat} {ls : Array Slot} (C0 : lw_At p s m meth c b L xs) (hL : L ≤ 384) (hi : i + 6 ≤ L) (hij : i = 6 * j) (hw : LwI w s) (hWd : Wd w G H) (hG : okG w.1.2 G) (hI : Inv w.1.2 G G) (hS : va_S (Ab w) s.heap H locs) (hl : lv_has ls 4 [(3, .int (Int32.ofInt (i : Int))), (2, .ref (w.1.1 12 0)), (1, .ref (w.1.1 11 0)), (0, .ref b)])
    (cont : ∀ K1, K1 ≤ 1 → ∀ (w2 : Wo) (G2 : PH) (H2 : Heap) (locs2 : List Loc), Agr w w2 → w2.2 = w.2 → Wd w2 G2 H2 → okG w2.1.2 G2 → Inv w2.1.2 G2 G2 → va_S (Ab w) s.heap H2 locs2 → W p l e room_1 s m #[Value.ref b] below meth c H2 locs2 (2233 + j + K1) (36355 + 12 * j + 12 * K1) Q (F0 m 2200 ls [])) :
    W p l e room_1 s m #[Value.ref b] below meth c H locs (2233 + j) (36355 + 12 * j) Q (F0 m 272 ls []) := by
  exact law_op (K1 := 0) (js := [1]) (pc := 272) (i1 := 13) (i2 := 17) C0 hw hWd hG hS hl hL (by omega) (by decide +kernel) ok_M_X11_days wd_s11_days wd_mLaw_13 ok_M_X12_days wd_s12_days wd_mLaw_17 ⟨by decide, by decide⟩ ⟨by decide, by decide⟩ ⟨by omega, by omega⟩ (call_days (d := 0) hI) (fun w1 r G1 h => ⟨by rw [h.1]; exact Agr.rf _, by rw [h.1]; exact h.2⟩) (cont 0 (by decide))
set_option maxRecDepth 10000 in
theorem law_c1 {p : Program} {l : Launch} {e : Env} {s : State} {m : MethodId} {below : List Frame} {meth : Method} {c : Code} {b L : Nat} {xs : Nat → Int32} {H : Heap} {locs : List Loc} {Q : State → Prop} {w : Wo} {G : PH} {i j : Nat} {ls : Array Slot} (C0 : lw_At p s m meth c b L xs) (hL : L ≤ 384) (hi : i + 6 ≤ L) (hij : i = 6 * j) (hw : LwI w s) (hWd : Wd w G H) (hG : okG w.1.2 G) (hI : Inv w.1.2 G G) (hS : va_S (Ab w) s.heap H locs) (hl : lv_has ls 4 [(3, .int (Int32.ofInt (i : Int))), (2, .ref (w.1.1 12 0)), (1, .ref (w.1.1 11 0)), (0, .ref b)])
    (cont : ∀ K1, K1 ≤ 1 → ∀ (w2 : Wo) (G2 : PH) (H2 : Heap) (locs2 : List Loc), Agr w w2 → w2.2 = w.2 → Wd w2 G2 H2 → okG w2.1.2 G2 → Inv w2.1.2 G2 G2 → va_S (Ab w) s.heap H2 locs2 → W p l e room_1 s m #[Value.ref b] below meth c H2 locs2 (2233 + j + K1) (36355 + 12 * j + 12 * K1) Q (F0 m 2200 ls [])) :
    W p l e room_1 s m #[Value.ref b] below meth c H locs (2233 + j) (36355 + 12 * j) Q (F0 m 295 ls []) := by
  exact law_op (K1 := 0) (js := [1, 2]) (pc := 295) (i1 := 18) (i2 := 22) C0 hw hWd hG hS hl hL (by omega) (by decide +kernel) ok_M_X11_camp wd_s11_camp wd_mLaw_18 ok_M_X12_camp wd_s12_camp wd_mLaw_22 ⟨by decide, by decide⟩ ⟨by decide, by decide⟩ ⟨by omega, by omega⟩ (call_camp (d := 0) hI) (fun w1 r G1 h => ⟨by rw [h.1]; exact Agr.rf _, by rw [h.1]; exact h.2⟩) (cont 0 (by decide))
set_option maxRecDepth 10000 in
theorem law_c2 {p : Program} {l : Launch} {e : Env} {s : State} {m : MethodId} {below : List Frame} {meth : Method} {c : Code} {b L : Nat} {xs : Nat → Int32} {H : Heap} {locs : List Loc} {Q : State → Prop} {w : Wo} {G : PH} {i j : Nat} {ls : Array Slot} (C0 : lw_At p s m meth c b L xs) (hL : L ≤ 384) (hi : i + 6 ≤ L) (hij : i = 6 * j) (hw : LwI w s) (hWd : Wd w G H) (hG : okG w.1.2 G) (hI : Inv w.1.2 G G) (hS : va_S (Ab w) s.heap H locs) (hl : lv_has ls 4 [(3, .int (Int32.ofInt (i : Int))), (2, .ref (w.1.1 12 0)), (1, .ref (w.1.1 11 0)), (0, .ref b)])
    (cont : ∀ K1, K1 ≤ 1 → ∀ (w2 : Wo) (G2 : PH) (H2 : Heap) (locs2 : List Loc), Agr w w2 → w2.2 = w.2 → Wd w2 G2 H2 → okG w2.1.2 G2 → Inv w2.1.2 G2 G2 → va_S (Ab w) s.heap H2 locs2 → W p l e room_1 s m #[Value.ref b] below meth c H2 locs2 (2233 + j + K1) (36355 + 12 * j + 12 * K1) Q (F0 m 2200 ls [])) :
    W p l e room_1 s m #[Value.ref b] below meth c H locs (2233 + j) (36355 + 12 * j) Q (F0 m 328 ls []) := by
  exact law_op (K1 := 0) (js := [1, 2, 3]) (pc := 328) (i1 := 23) (i2 := 27) C0 hw hWd hG hS hl hL (by omega) (by decide +kernel) ok_M_X11_road wd_s11_road wd_mLaw_23 ok_M_X12_road wd_s12_road wd_mLaw_27 ⟨by decide, by decide⟩ ⟨by decide, by decide⟩ ⟨by omega, by omega⟩ (call_road (d := 0) hI) (fun w1 r G1 h => ⟨by rw [h.1]; exact Agr.rf _, by rw [h.1]; exact h.2⟩) (cont 0 (by decide))
set_option maxRecDepth 10000 in
theorem law_c3 {p : Program} {l : Launch} {e : Env} {s : State} {m : MethodId} {below : List Frame} {meth : Method} {c : Code} {b L : Nat} {xs : Nat → Int32} {H : Heap} {locs : List Loc} {Q : State → Prop} {w : Wo} {G : PH} {i j : Nat} {ls : Array Slot} (C0 : lw_At p s m meth c b L xs) (hL : L ≤ 384) (hi : i + 6 ≤ L) (hij : i = 6 * j) (hw : LwI w s) (hWd : Wd w G H) (hG : okG w.1.2 G) (hI : Inv w.1.2 G G) (hS : va_S (Ab w) s.heap H locs) (hl : lv_has ls 4 [(3, .int (Int32.ofInt (i : Int))), (2, .ref (w.1.1 12 0)), (1, .ref (w.1.1 11 0)), (0, .ref b)])
    (cont : ∀ K1, K1 ≤ 1 → ∀ (w2 : Wo) (G2 : PH) (H2 : Heap) (locs2 : List Loc), Agr w w2 → w2.2 = w.2 → Wd w2 G2 H2 → okG w2.1.2 G2 → Inv w2.1.2 G2 G2 → va_S (Ab w) s.heap H2 locs2 → W p l e room_1 s m #[Value.ref b] below meth c H2 locs2 (2233 + j + K1) (36355 + 12 * j + 12 * K1) Q (F0 m 2200 ls [])) :
    W p l e room_1 s m #[Value.ref b] below meth c H locs (2233 + j) (36355 + 12 * j) Q (F0 m 371 ls []) := by
  exact law_op (K1 := 0) (js := [1, 2]) (pc := 371) (i1 := 28) (i2 := 31) C0 hw hWd hG hS hl hL (by omega) (by decide +kernel) ok_M_X11_far wd_s11_far wd_mLaw_28 ok_M_X12_far wd_s12_far wd_mLaw_31 ⟨by decide, by decide⟩ ⟨by decide, by decide⟩ ⟨by omega, by omega⟩ (call_far (d := 0) hI) (fun w1 r G1 h => ⟨by rw [h.1]; exact Agr.rf _, by rw [h.1]; exact h.2⟩) (cont 0 (by decide))
set_option maxRecDepth 10000 in
theorem law_c4 {p : Program} {l : Launch} {e : Env} {s : State} {m : MethodId} {below : List Frame} {meth : Method} {c : Code} {b L : Nat} {xs : Nat → Int32} {H : Heap} {locs : List Loc} {Q : State → Prop} {w : Wo} {G : PH} {i j : Nat} {ls : Array Slot} (C0 : lw_At p s m meth c b L xs) (hL : L ≤ 384) (hi : i + 6 ≤ L) (hij : i = 6 * j) (hw : LwI w s) (hWd : Wd w G H) (hG : okG w.1.2 G) (hI : Inv w.1.2 G G) (hS : va_S (Ab w) s.heap H locs) (hl : lv_has ls 4 [(3, .int (Int32.ofInt (i : Int))), (2, .ref (w.1.1 12 0)), (1, .ref (w.1.1 11 0)), (0, .ref b)])
    (cont : ∀ K1, K1 ≤ 1 → ∀ (w2 : Wo) (G2 : PH) (H2 : Heap) (locs2 : List Loc), Agr w w2 → w2.2 = w.2 → Wd w2 G2 H2 → okG w2.1.2 G2 → Inv w2.1.2 G2 G2 → va_S (Ab w) s.heap H2 locs2 → W p l e room_1 s m #[Value.ref b] below meth c H2 locs2 (2233 + j + K1) (36355 + 12 * j + 12 * K1) Q (F0 m 2200 ls [])) :
    W p l e room_1 s m #[Value.ref b] below meth c H locs (2233 + j) (36355 + 12 * j) Q (F0 m 404 ls []) := by
  exact law_op (K1 := 0) (js := [1, 2]) (pc := 404) (i1 := 32) (i2 := 35) C0 hw hWd hG hS hl hL (by omega) (by decide +kernel) ok_M_X11_rise wd_s11_rise wd_mLaw_32 ok_M_X12_rise wd_s12_rise wd_mLaw_35 ⟨by decide, by decide⟩ ⟨by decide, by decide⟩ ⟨by omega, by omega⟩ (call_rise (d := 0) hI) (fun w1 r G1 h => ⟨by rw [h.1]; exact Agr.rf _, by rw [h.1]; exact h.2⟩) (cont 0 (by decide))
set_option maxRecDepth 10000 in
theorem law_c5 {p : Program} {l : Launch} {e : Env} {s : State} {m : MethodId} {below : List Frame} {meth : Method} {c : Code} {b L : Nat} {xs : Nat → Int32} {H : Heap} {locs : List Loc} {Q : State → Prop} {w : Wo} {G : PH} {i j : Nat} {ls : Array Slot} (C0 : lw_At p s m meth c b L xs) (hL : L ≤ 384) (hi : i + 6 ≤ L) (hij : i = 6 * j) (hw : LwI w s) (hWd : Wd w G H) (hG : okG w.1.2 G) (hI : Inv w.1.2 G G) (hS : va_S (Ab w) s.heap H locs) (hl : lv_has ls 4 [(3, .int (Int32.ofInt (i : Int))), (2, .ref (w.1.1 12 0)), (1, .ref (w.1.1 11 0)), (0, .ref b)])
    (cont : ∀ K1, K1 ≤ 1 → ∀ (w2 : Wo) (G2 : PH) (H2 : Heap) (locs2 : List Loc), Agr w w2 → w2.2 = w.2 → Wd w2 G2 H2 → okG w2.1.2 G2 → Inv w2.1.2 G2 G2 → va_S (Ab w) s.heap H2 locs2 → W p l e room_1 s m #[Value.ref b] below meth c H2 locs2 (2233 + j + K1) (36355 + 12 * j + 12 * K1) Q (F0 m 2200 ls [])) :
    W p l e room_1 s m #[Value.ref b] below meth c H locs (2233 + j) (36355 + 12 * j) Q (F0 m 437 ls []) := by
  exact law_op (K1 := 1) (js := [1, 2, 3, 4, 5]) (pc := 437) (i1 := 36) (i2 := 40) C0 hw hWd hG hS hl hL (by omega) (by decide +kernel) ok_M_X11_person wd_s11_person wd_mLaw_36 ok_M_X12_person wd_s12_person wd_mLaw_40 ⟨by decide, by decide⟩ ⟨by decide, by decide⟩ ⟨by omega, by omega⟩ (call_person (d := 0) hI) (fun _ _ _ h => h) (cont 1 (by decide))
set_option maxRecDepth 10000 in
theorem law_c6 {p : Program} {l : Launch} {e : Env} {s : State} {m : MethodId} {below : List Frame} {meth : Method} {c : Code} {b L : Nat} {xs : Nat → Int32} {H : Heap} {locs : List Loc} {Q : State → Prop} {w : Wo} {G : PH} {i j : Nat} {ls : Array Slot} (C0 : lw_At p s m meth c b L xs) (hL : L ≤ 384) (hi : i + 6 ≤ L) (hij : i = 6 * j) (hw : LwI w s) (hWd : Wd w G H) (hG : okG w.1.2 G) (hI : Inv w.1.2 G G) (hS : va_S (Ab w) s.heap H locs) (hl : lv_has ls 4 [(3, .int (Int32.ofInt (i : Int))), (2, .ref (w.1.1 12 0)), (1, .ref (w.1.1 11 0)), (0, .ref b)])
    (cont : ∀ K1, K1 ≤ 1 → ∀ (w2 : Wo) (G2 : PH) (H2 : Heap) (locs2 : List Loc), Agr w w2 → w2.2 = w.2 → Wd w2 G2 H2 → okG w2.1.2 G2 → Inv w2.1.2 G2 G2 → va_S (Ab w) s.heap H2 locs2 → W p l e room_1 s m #[Value.ref b] below meth c H2 locs2 (2233 + j + K1) (36355 + 12 * j + 12 * K1) Q (F0 m 2200 ls [])) :
    W p l e room_1 s m #[Value.ref b] below meth c H locs (2233 + j) (36355 + 12 * j) Q (F0 m 500 ls []) := by
  exact law_op (K1 := 0) (js := [1, 2]) (pc := 500) (i1 := 41) (i2 := 44) C0 hw hWd hG hS hl hL (by omega) (by decide +kernel) ok_M_X11_move wd_s11_move wd_mLaw_41 ok_M_X12_move wd_s12_move wd_mLaw_44 ⟨by decide, by decide⟩ ⟨by decide, by decide⟩ ⟨by omega, by omega⟩ (call_move (d := 0) hI) (fun w1 r G1 h => ⟨by rw [h.1]; exact Agr.rf _, by rw [h.1]; exact h.2⟩) (cont 0 (by decide))
set_option maxRecDepth 10000 in
theorem law_c7 {p : Program} {l : Launch} {e : Env} {s : State} {m : MethodId} {below : List Frame} {meth : Method} {c : Code} {b L : Nat} {xs : Nat → Int32} {H : Heap} {locs : List Loc} {Q : State → Prop} {w : Wo} {G : PH} {i j : Nat} {ls : Array Slot} (C0 : lw_At p s m meth c b L xs) (hL : L ≤ 384) (hi : i + 6 ≤ L) (hij : i = 6 * j) (hw : LwI w s) (hWd : Wd w G H) (hG : okG w.1.2 G) (hI : Inv w.1.2 G G) (hS : va_S (Ab w) s.heap H locs) (hl : lv_has ls 4 [(3, .int (Int32.ofInt (i : Int))), (2, .ref (w.1.1 12 0)), (1, .ref (w.1.1 11 0)), (0, .ref b)])
    (cont : ∀ K1, K1 ≤ 1 → ∀ (w2 : Wo) (G2 : PH) (H2 : Heap) (locs2 : List Loc), Agr w w2 → w2.2 = w.2 → Wd w2 G2 H2 → okG w2.1.2 G2 → Inv w2.1.2 G2 G2 → va_S (Ab w) s.heap H2 locs2 → W p l e room_1 s m #[Value.ref b] below meth c H2 locs2 (2233 + j + K1) (36355 + 12 * j + 12 * K1) Q (F0 m 2200 ls [])) :
    W p l e room_1 s m #[Value.ref b] below meth c H locs (2233 + j) (36355 + 12 * j) Q (F0 m 533 ls []) := by
  exact law_op (K1 := 0) (js := [1, 2]) (pc := 533) (i1 := 45) (i2 := 48) C0 hw hWd hG hS hl hL (by omega) (by decide +kernel) ok_M_X11_heal wd_s11_heal wd_mLaw_45 ok_M_X12_heal wd_s12_heal wd_mLaw_48 ⟨by decide, by decide⟩ ⟨by decide, by decide⟩ ⟨by omega, by omega⟩ (call_heal (d := 0) hI) (fun w1 r G1 h => ⟨by rw [h.1]; exact Agr.rf _, by rw [h.1]; exact h.2⟩) (cont 0 (by decide))
set_option maxRecDepth 10000 in
theorem law_c8 {p : Program} {l : Launch} {e : Env} {s : State} {m : MethodId} {below : List Frame} {meth : Method} {c : Code} {b L : Nat} {xs : Nat → Int32} {H : Heap} {locs : List Loc} {Q : State → Prop} {w : Wo} {G : PH} {i j : Nat} {ls : Array Slot} (C0 : lw_At p s m meth c b L xs) (hL : L ≤ 384) (hi : i + 6 ≤ L) (hij : i = 6 * j) (hw : LwI w s) (hWd : Wd w G H) (hG : okG w.1.2 G) (hI : Inv w.1.2 G G) (hS : va_S (Ab w) s.heap H locs) (hl : lv_has ls 4 [(3, .int (Int32.ofInt (i : Int))), (2, .ref (w.1.1 12 0)), (1, .ref (w.1.1 11 0)), (0, .ref b)])
    (cont : ∀ K1, K1 ≤ 1 → ∀ (w2 : Wo) (G2 : PH) (H2 : Heap) (locs2 : List Loc), Agr w w2 → w2.2 = w.2 → Wd w2 G2 H2 → okG w2.1.2 G2 → Inv w2.1.2 G2 G2 → va_S (Ab w) s.heap H2 locs2 → W p l e room_1 s m #[Value.ref b] below meth c H2 locs2 (2233 + j + K1) (36355 + 12 * j + 12 * K1) Q (F0 m 2200 ls [])) :
    W p l e room_1 s m #[Value.ref b] below meth c H locs (2233 + j) (36355 + 12 * j) Q (F0 m 566 ls []) := by
  exact law_op (K1 := 0) (js := [1, 2]) (pc := 566) (i1 := 49) (i2 := 52) C0 hw hWd hG hS hl hL (by omega) (by decide +kernel) ok_M_X11_become wd_s11_become wd_mLaw_49 ok_M_X12_become wd_s12_become wd_mLaw_52 ⟨by decide, by decide⟩ ⟨by decide, by decide⟩ ⟨by omega, by omega⟩ (call_become (d := 0) hI) (fun w1 r G1 h => ⟨by rw [h.1]; exact Agr.rf _, by rw [h.1]; exact h.2⟩) (cont 0 (by decide))
set_option maxRecDepth 10000 in
theorem law_c9 {p : Program} {l : Launch} {e : Env} {s : State} {m : MethodId} {below : List Frame} {meth : Method} {c : Code} {b L : Nat} {xs : Nat → Int32} {H : Heap} {locs : List Loc} {Q : State → Prop} {w : Wo} {G : PH} {i j : Nat} {ls : Array Slot} (C0 : lw_At p s m meth c b L xs) (hL : L ≤ 384) (hi : i + 6 ≤ L) (hij : i = 6 * j) (hw : LwI w s) (hWd : Wd w G H) (hG : okG w.1.2 G) (hI : Inv w.1.2 G G) (hS : va_S (Ab w) s.heap H locs) (hl : lv_has ls 4 [(3, .int (Int32.ofInt (i : Int))), (2, .ref (w.1.1 12 0)), (1, .ref (w.1.1 11 0)), (0, .ref b)])
    (cont : ∀ K1, K1 ≤ 1 → ∀ (w2 : Wo) (G2 : PH) (H2 : Heap) (locs2 : List Loc), Agr w w2 → w2.2 = w.2 → Wd w2 G2 H2 → okG w2.1.2 G2 → Inv w2.1.2 G2 G2 → va_S (Ab w) s.heap H2 locs2 → W p l e room_1 s m #[Value.ref b] below meth c H2 locs2 (2233 + j + K1) (36355 + 12 * j + 12 * K1) Q (F0 m 2200 ls [])) :
    W p l e room_1 s m #[Value.ref b] below meth c H locs (2233 + j) (36355 + 12 * j) Q (F0 m 599 ls []) := by
  exact law_op (K1 := 0) (js := [1, 2]) (pc := 599) (i1 := 53) (i2 := 56) C0 hw hWd hG hS hl hL (by omega) (by decide +kernel) ok_M_X11_of wd_s11_of wd_mLaw_53 ok_M_X12_of wd_s12_of wd_mLaw_56 ⟨by decide, by decide⟩ ⟨by decide, by decide⟩ ⟨by omega, by omega⟩ (call_of (d := 0) hI) (fun w1 r G1 h => ⟨by rw [h.1]; exact Agr.rf _, by rw [h.1]; exact h.2⟩) (cont 0 (by decide))
set_option maxRecDepth 10000 in
theorem law_c10 {p : Program} {l : Launch} {e : Env} {s : State} {m : MethodId} {below : List Frame} {meth : Method} {c : Code} {b L : Nat} {xs : Nat → Int32} {H : Heap} {locs : List Loc} {Q : State → Prop} {w : Wo} {G : PH} {i j : Nat} {ls : Array Slot} (C0 : lw_At p s m meth c b L xs) (hL : L ≤ 384) (hi : i + 6 ≤ L) (hij : i = 6 * j) (hw : LwI w s) (hWd : Wd w G H) (hG : okG w.1.2 G) (hI : Inv w.1.2 G G) (hS : va_S (Ab w) s.heap H locs) (hl : lv_has ls 4 [(3, .int (Int32.ofInt (i : Int))), (2, .ref (w.1.1 12 0)), (1, .ref (w.1.1 11 0)), (0, .ref b)])
    (cont : ∀ K1, K1 ≤ 1 → ∀ (w2 : Wo) (G2 : PH) (H2 : Heap) (locs2 : List Loc), Agr w w2 → w2.2 = w.2 → Wd w2 G2 H2 → okG w2.1.2 G2 → Inv w2.1.2 G2 G2 → va_S (Ab w) s.heap H2 locs2 → W p l e room_1 s m #[Value.ref b] below meth c H2 locs2 (2233 + j + K1) (36355 + 12 * j + 12 * K1) Q (F0 m 2200 ls [])) :
    W p l e room_1 s m #[Value.ref b] below meth c H locs (2233 + j) (36355 + 12 * j) Q (F0 m 632 ls []) := by
  exact law_op (K1 := 0) (js := [1, 2, 3]) (pc := 632) (i1 := 57) (i2 := 60) C0 hw hWd hG hS hl hL (by omega) (by decide +kernel) ok_M_X11_stay wd_s11_stay wd_mLaw_57 ok_M_X12_stay wd_s12_stay wd_mLaw_60 ⟨by decide, by decide⟩ ⟨by decide, by decide⟩ ⟨by omega, by omega⟩ (call_stay (d := 0) hI) (fun w1 r G1 h => ⟨by rw [h.1]; exact Agr.rf _, by rw [h.1]; exact h.2⟩) (cont 0 (by decide))
set_option maxRecDepth 10000 in
theorem law_c11 {p : Program} {l : Launch} {e : Env} {s : State} {m : MethodId} {below : List Frame} {meth : Method} {c : Code} {b L : Nat} {xs : Nat → Int32} {H : Heap} {locs : List Loc} {Q : State → Prop} {w : Wo} {G : PH} {i j : Nat} {ls : Array Slot} (C0 : lw_At p s m meth c b L xs) (hL : L ≤ 384) (hi : i + 6 ≤ L) (hij : i = 6 * j) (hw : LwI w s) (hWd : Wd w G H) (hG : okG w.1.2 G) (hI : Inv w.1.2 G G) (hS : va_S (Ab w) s.heap H locs) (hl : lv_has ls 4 [(3, .int (Int32.ofInt (i : Int))), (2, .ref (w.1.1 12 0)), (1, .ref (w.1.1 11 0)), (0, .ref b)])
    (cont : ∀ K1, K1 ≤ 1 → ∀ (w2 : Wo) (G2 : PH) (H2 : Heap) (locs2 : List Loc), Agr w w2 → w2.2 = w.2 → Wd w2 G2 H2 → okG w2.1.2 G2 → Inv w2.1.2 G2 G2 → va_S (Ab w) s.heap H2 locs2 → W p l e room_1 s m #[Value.ref b] below meth c H2 locs2 (2233 + j + K1) (36355 + 12 * j + 12 * K1) Q (F0 m 2200 ls [])) :
    W p l e room_1 s m #[Value.ref b] below meth c H locs (2233 + j) (36355 + 12 * j) Q (F0 m 675 ls []) := by
  exact law_op (K1 := 0) (js := [1, 2, 3]) (pc := 675) (i1 := 61) (i2 := 64) C0 hw hWd hG hS hl hL (by omega) (by decide +kernel) ok_M_X11_fact wd_s11_fact wd_mLaw_61 ok_M_X12_fact wd_s12_fact wd_mLaw_64 ⟨by decide, by decide⟩ ⟨by decide, by decide⟩ ⟨by omega, by omega⟩ (call_fact (d := 0) hI) (fun w1 r G1 h => ⟨by rw [h.1]; exact Agr.rf _, by rw [h.1]; exact h.2⟩) (cont 0 (by decide))
set_option maxRecDepth 10000 in
theorem law_c12 {p : Program} {l : Launch} {e : Env} {s : State} {m : MethodId} {below : List Frame} {meth : Method} {c : Code} {b L : Nat} {xs : Nat → Int32} {H : Heap} {locs : List Loc} {Q : State → Prop} {w : Wo} {G : PH} {i j : Nat} {ls : Array Slot} (C0 : lw_At p s m meth c b L xs) (hL : L ≤ 384) (hi : i + 6 ≤ L) (hij : i = 6 * j) (hw : LwI w s) (hWd : Wd w G H) (hG : okG w.1.2 G) (hI : Inv w.1.2 G G) (hS : va_S (Ab w) s.heap H locs) (hl : lv_has ls 4 [(3, .int (Int32.ofInt (i : Int))), (2, .ref (w.1.1 12 0)), (1, .ref (w.1.1 11 0)), (0, .ref b)])
    (cont : ∀ K1, K1 ≤ 1 → ∀ (w2 : Wo) (G2 : PH) (H2 : Heap) (locs2 : List Loc), Agr w w2 → w2.2 = w.2 → Wd w2 G2 H2 → okG w2.1.2 G2 → Inv w2.1.2 G2 G2 → va_S (Ab w) s.heap H2 locs2 → W p l e room_1 s m #[Value.ref b] below meth c H2 locs2 (2233 + j + K1) (36355 + 12 * j + 12 * K1) Q (F0 m 2200 ls [])) :
    W p l e room_1 s m #[Value.ref b] below meth c H locs (2233 + j) (36355 + 12 * j) Q (F0 m 718 ls []) := by
  exact law_op (K1 := 0) (js := []) (pc := 718) (i1 := 65) (i2 := 69) C0 hw hWd hG hS hl hL (by omega) (by decide +kernel) ok_M_X11_letter wd_s11_letter wd_mLaw_65 ok_M_X12_letter wd_s12_letter wd_mLaw_69 ⟨by decide, by decide⟩ ⟨by decide, by decide⟩ ⟨by omega, by omega⟩ (call_letter (d := 0) hI) (fun w1 r G1 h => ⟨by rw [h.1]; exact Agr.rf _, by rw [h.1]; exact h.2⟩) (cont 0 (by decide))
set_option maxRecDepth 10000 in
theorem law_c13 {p : Program} {l : Launch} {e : Env} {s : State} {m : MethodId} {below : List Frame} {meth : Method} {c : Code} {b L : Nat} {xs : Nat → Int32} {H : Heap} {locs : List Loc} {Q : State → Prop} {w : Wo} {G : PH} {i j : Nat} {ls : Array Slot} (C0 : lw_At p s m meth c b L xs) (hL : L ≤ 384) (hi : i + 6 ≤ L) (hij : i = 6 * j) (hw : LwI w s) (hWd : Wd w G H) (hG : okG w.1.2 G) (hI : Inv w.1.2 G G) (hS : va_S (Ab w) s.heap H locs) (hl : lv_has ls 4 [(3, .int (Int32.ofInt (i : Int))), (2, .ref (w.1.1 12 0)), (1, .ref (w.1.1 11 0)), (0, .ref b)])
    (cont : ∀ K1, K1 ≤ 1 → ∀ (w2 : Wo) (G2 : PH) (H2 : Heap) (locs2 : List Loc), Agr w w2 → w2.2 = w.2 → Wd w2 G2 H2 → okG w2.1.2 G2 → Inv w2.1.2 G2 G2 → va_S (Ab w) s.heap H2 locs2 → W p l e room_1 s m #[Value.ref b] below meth c H2 locs2 (2233 + j + K1) (36355 + 12 * j + 12 * K1) Q (F0 m 2200 ls [])) :
    W p l e room_1 s m #[Value.ref b] below meth c H locs (2233 + j) (36355 + 12 * j) Q (F0 m 731 ls []) := by
  exact law_op (K1 := 0) (js := [1, 2, 3, 4]) (pc := 731) (i1 := 70) (i2 := 74) C0 hw hWd hG hS hl hL (by omega) (by decide +kernel) ok_M_X11_known wd_s11_known wd_mLaw_70 ok_M_X12_known wd_s12_known wd_mLaw_74 ⟨by decide, by decide⟩ ⟨by decide, by decide⟩ ⟨by omega, by omega⟩ (call_known (d := 0) hI) (fun w1 r G1 h => ⟨by rw [h.1]; exact Agr.rf _, by rw [h.1]; exact h.2⟩) (cont 0 (by decide))
set_option maxRecDepth 10000 in
theorem law_c14 {p : Program} {l : Launch} {e : Env} {s : State} {m : MethodId} {below : List Frame} {meth : Method} {c : Code} {b L : Nat} {xs : Nat → Int32} {H : Heap} {locs : List Loc} {Q : State → Prop} {w : Wo} {G : PH} {i j : Nat} {ls : Array Slot} (C0 : lw_At p s m meth c b L xs) (hL : L ≤ 384) (hi : i + 6 ≤ L) (hij : i = 6 * j) (hw : LwI w s) (hWd : Wd w G H) (hG : okG w.1.2 G) (hI : Inv w.1.2 G G) (hS : va_S (Ab w) s.heap H locs) (hl : lv_has ls 4 [(3, .int (Int32.ofInt (i : Int))), (2, .ref (w.1.1 12 0)), (1, .ref (w.1.1 11 0)), (0, .ref b)])
    (cont : ∀ K1, K1 ≤ 1 → ∀ (w2 : Wo) (G2 : PH) (H2 : Heap) (locs2 : List Loc), Agr w w2 → w2.2 = w.2 → Wd w2 G2 H2 → okG w2.1.2 G2 → Inv w2.1.2 G2 G2 → va_S (Ab w) s.heap H2 locs2 → W p l e room_1 s m #[Value.ref b] below meth c H2 locs2 (2233 + j + K1) (36355 + 12 * j + 12 * K1) Q (F0 m 2200 ls [])) :
    W p l e room_1 s m #[Value.ref b] below meth c H locs (2233 + j) (36355 + 12 * j) Q (F0 m 784 ls []) := by
  exact law_op (K1 := 0) (js := [1, 2, 3]) (pc := 784) (i1 := 75) (i2 := 78) C0 hw hWd hG hS hl hL (by omega) (by decide +kernel) ok_M_X11_promise wd_s11_promise wd_mLaw_75 ok_M_X12_promise wd_s12_promise wd_mLaw_78 ⟨by decide, by decide⟩ ⟨by decide, by decide⟩ ⟨by omega, by omega⟩ (call_promise (d := 0) hI) (fun w1 r G1 h => ⟨by rw [h.1]; exact Agr.rf _, by rw [h.1]; exact h.2⟩) (cont 0 (by decide))
set_option maxRecDepth 10000 in
theorem law_c15 {p : Program} {l : Launch} {e : Env} {s : State} {m : MethodId} {below : List Frame} {meth : Method} {c : Code} {b L : Nat} {xs : Nat → Int32} {H : Heap} {locs : List Loc} {Q : State → Prop} {w : Wo} {G : PH} {i j : Nat} {ls : Array Slot} (C0 : lw_At p s m meth c b L xs) (hL : L ≤ 384) (hi : i + 6 ≤ L) (hij : i = 6 * j) (hw : LwI w s) (hWd : Wd w G H) (hG : okG w.1.2 G) (hI : Inv w.1.2 G G) (hS : va_S (Ab w) s.heap H locs) (hl : lv_has ls 4 [(3, .int (Int32.ofInt (i : Int))), (2, .ref (w.1.1 12 0)), (1, .ref (w.1.1 11 0)), (0, .ref b)])
    (cont : ∀ K1, K1 ≤ 1 → ∀ (w2 : Wo) (G2 : PH) (H2 : Heap) (locs2 : List Loc), Agr w w2 → w2.2 = w.2 → Wd w2 G2 H2 → okG w2.1.2 G2 → Inv w2.1.2 G2 G2 → va_S (Ab w) s.heap H2 locs2 → W p l e room_1 s m #[Value.ref b] below meth c H2 locs2 (2233 + j + K1) (36355 + 12 * j + 12 * K1) Q (F0 m 2200 ls [])) :
    W p l e room_1 s m #[Value.ref b] below meth c H locs (2233 + j) (36355 + 12 * j) Q (F0 m 827 ls []) := by
  exact law_op (K1 := 0) (js := [1, 2]) (pc := 827) (i1 := 79) (i2 := 82) C0 hw hWd hG hS hl hL (by omega) (by decide +kernel) ok_M_X11_ofPromise wd_s11_ofPromise wd_mLaw_79 ok_M_X12_ofPromise wd_s12_ofPromise wd_mLaw_82 ⟨by decide, by decide⟩ ⟨by decide, by decide⟩ ⟨by omega, by omega⟩ (call_ofPromise (d := 0) hI) (fun w1 r G1 h => ⟨by rw [h.1]; exact Agr.rf _, by rw [h.1]; exact h.2⟩) (cont 0 (by decide))
set_option maxRecDepth 10000 in
theorem law_c16 {p : Program} {l : Launch} {e : Env} {s : State} {m : MethodId} {below : List Frame} {meth : Method} {c : Code} {b L : Nat} {xs : Nat → Int32} {H : Heap} {locs : List Loc} {Q : State → Prop} {w : Wo} {G : PH} {i j : Nat} {ls : Array Slot} (C0 : lw_At p s m meth c b L xs) (hL : L ≤ 384) (hi : i + 6 ≤ L) (hij : i = 6 * j) (hw : LwI w s) (hWd : Wd w G H) (hG : okG w.1.2 G) (hI : Inv w.1.2 G G) (hS : va_S (Ab w) s.heap H locs) (hl : lv_has ls 4 [(3, .int (Int32.ofInt (i : Int))), (2, .ref (w.1.1 12 0)), (1, .ref (w.1.1 11 0)), (0, .ref b)])
    (cont : ∀ K1, K1 ≤ 1 → ∀ (w2 : Wo) (G2 : PH) (H2 : Heap) (locs2 : List Loc), Agr w w2 → w2.2 = w.2 → Wd w2 G2 H2 → okG w2.1.2 G2 → Inv w2.1.2 G2 G2 → va_S (Ab w) s.heap H2 locs2 → W p l e room_1 s m #[Value.ref b] below meth c H2 locs2 (2233 + j + K1) (36355 + 12 * j + 12 * K1) Q (F0 m 2200 ls [])) :
    W p l e room_1 s m #[Value.ref b] below meth c H locs (2233 + j) (36355 + 12 * j) Q (F0 m 860 ls []) := by
  exact law_op (K1 := 0) (js := [1, 2]) (pc := 860) (i1 := 83) (i2 := 86) C0 hw hWd hG hS hl hL (by omega) (by decide +kernel) ok_M_X11_broken wd_s11_broken wd_mLaw_83 ok_M_X12_broken wd_s12_broken wd_mLaw_86 ⟨by decide, by decide⟩ ⟨by decide, by decide⟩ ⟨by omega, by omega⟩ (call_broken (d := 0) hI) (fun w1 r G1 h => ⟨by rw [h.1]; exact Agr.rf _, by rw [h.1]; exact h.2⟩) (cont 0 (by decide))
set_option maxRecDepth 10000 in
theorem law_c17 {p : Program} {l : Launch} {e : Env} {s : State} {m : MethodId} {below : List Frame} {meth : Method} {c : Code} {b L : Nat} {xs : Nat → Int32} {H : Heap} {locs : List Loc} {Q : State → Prop} {w : Wo} {G : PH} {i j : Nat} {ls : Array Slot} (C0 : lw_At p s m meth c b L xs) (hL : L ≤ 384) (hi : i + 6 ≤ L) (hij : i = 6 * j) (hw : LwI w s) (hWd : Wd w G H) (hG : okG w.1.2 G) (hI : Inv w.1.2 G G) (hS : va_S (Ab w) s.heap H locs) (hl : lv_has ls 4 [(3, .int (Int32.ofInt (i : Int))), (2, .ref (w.1.1 12 0)), (1, .ref (w.1.1 11 0)), (0, .ref b)])
    (cont : ∀ K1, K1 ≤ 1 → ∀ (w2 : Wo) (G2 : PH) (H2 : Heap) (locs2 : List Loc), Agr w w2 → w2.2 = w.2 → Wd w2 G2 H2 → okG w2.1.2 G2 → Inv w2.1.2 G2 G2 → va_S (Ab w) s.heap H2 locs2 → W p l e room_1 s m #[Value.ref b] below meth c H2 locs2 (2233 + j + K1) (36355 + 12 * j + 12 * K1) Q (F0 m 2200 ls [])) :
    W p l e room_1 s m #[Value.ref b] below meth c H locs (2233 + j) (36355 + 12 * j) Q (F0 m 893 ls []) := by
  exact law_op (K1 := 0) (js := [1, 2]) (pc := 893) (i1 := 87) (i2 := 90) C0 hw hWd hG hS hl hL (by omega) (by decide +kernel) ok_M_X11_feed wd_s11_feed wd_mLaw_87 ok_M_X12_feed wd_s12_feed wd_mLaw_90 ⟨by decide, by decide⟩ ⟨by decide, by decide⟩ ⟨by omega, by omega⟩ (call_feed (d := 0) hI) (fun w1 r G1 h => ⟨by rw [h.1]; exact Agr.rf _, by rw [h.1]; exact h.2⟩) (cont 0 (by decide))
set_option maxRecDepth 10000 in
theorem law_c18 {p : Program} {l : Launch} {e : Env} {s : State} {m : MethodId} {below : List Frame} {meth : Method} {c : Code} {b L : Nat} {xs : Nat → Int32} {H : Heap} {locs : List Loc} {Q : State → Prop} {w : Wo} {G : PH} {i j : Nat} {ls : Array Slot} (C0 : lw_At p s m meth c b L xs) (hL : L ≤ 384) (hi : i + 6 ≤ L) (hij : i = 6 * j) (hw : LwI w s) (hWd : Wd w G H) (hG : okG w.1.2 G) (hI : Inv w.1.2 G G) (hS : va_S (Ab w) s.heap H locs) (hl : lv_has ls 4 [(3, .int (Int32.ofInt (i : Int))), (2, .ref (w.1.1 12 0)), (1, .ref (w.1.1 11 0)), (0, .ref b)])
    (cont : ∀ K1, K1 ≤ 1 → ∀ (w2 : Wo) (G2 : PH) (H2 : Heap) (locs2 : List Loc), Agr w w2 → w2.2 = w.2 → Wd w2 G2 H2 → okG w2.1.2 G2 → Inv w2.1.2 G2 G2 → va_S (Ab w) s.heap H2 locs2 → W p l e room_1 s m #[Value.ref b] below meth c H2 locs2 (2233 + j + K1) (36355 + 12 * j + 12 * K1) Q (F0 m 2200 ls [])) :
    W p l e room_1 s m #[Value.ref b] below meth c H locs (2233 + j) (36355 + 12 * j) Q (F0 m 926 ls []) := by
  exact law_op (K1 := 0) (js := [1, 2]) (pc := 926) (i1 := 91) (i2 := 94) C0 hw hWd hG hS hl hL (by omega) (by decide +kernel) ok_M_X11_text wd_s11_text wd_mLaw_91 ok_M_X12_text wd_s12_text wd_mLaw_94 ⟨by decide, by decide⟩ ⟨by decide, by decide⟩ ⟨by omega, by omega⟩ (call_text (d := 0) hI) (fun w1 r G1 h => ⟨by rw [h.1]; exact Agr.rf _, by rw [h.1]; exact h.2⟩) (cont 0 (by decide))
set_option maxRecDepth 10000 in
theorem law_c19 {p : Program} {l : Launch} {e : Env} {s : State} {m : MethodId} {below : List Frame} {meth : Method} {c : Code} {b L : Nat} {xs : Nat → Int32} {H : Heap} {locs : List Loc} {Q : State → Prop} {w : Wo} {G : PH} {i j : Nat} {ls : Array Slot} (C0 : lw_At p s m meth c b L xs) (hL : L ≤ 384) (hi : i + 6 ≤ L) (hij : i = 6 * j) (hw : LwI w s) (hWd : Wd w G H) (hG : okG w.1.2 G) (hI : Inv w.1.2 G G) (hS : va_S (Ab w) s.heap H locs) (hl : lv_has ls 4 [(3, .int (Int32.ofInt (i : Int))), (2, .ref (w.1.1 12 0)), (1, .ref (w.1.1 11 0)), (0, .ref b)])
    (cont : ∀ K1, K1 ≤ 1 → ∀ (w2 : Wo) (G2 : PH) (H2 : Heap) (locs2 : List Loc), Agr w w2 → w2.2 = w.2 → Wd w2 G2 H2 → okG w2.1.2 G2 → Inv w2.1.2 G2 G2 → va_S (Ab w) s.heap H2 locs2 → W p l e room_1 s m #[Value.ref b] below meth c H2 locs2 (2233 + j + K1) (36355 + 12 * j + 12 * K1) Q (F0 m 2200 ls [])) :
    W p l e room_1 s m #[Value.ref b] below meth c H locs (2233 + j) (36355 + 12 * j) Q (F0 m 959 ls []) := by
  exact law_op (K1 := 0) (js := [1, 2, 3]) (pc := 959) (i1 := 95) (i2 := 98) C0 hw hWd hG hS hl hL (by omega) (by decide +kernel) ok_M_X11_inForce wd_s11_inForce wd_mLaw_95 ok_M_X12_inForce wd_s12_inForce wd_mLaw_98 ⟨by decide, by decide⟩ ⟨by decide, by decide⟩ ⟨by omega, by omega⟩ (call_inForce (d := 0) hI) (fun w1 r G1 h => ⟨by rw [h.1]; exact Agr.rf _, by rw [h.1]; exact h.2⟩) (cont 0 (by decide))
set_option maxRecDepth 10000 in
theorem law_c20 {p : Program} {l : Launch} {e : Env} {s : State} {m : MethodId} {below : List Frame} {meth : Method} {c : Code} {b L : Nat} {xs : Nat → Int32} {H : Heap} {locs : List Loc} {Q : State → Prop} {w : Wo} {G : PH} {i j : Nat} {ls : Array Slot} (C0 : lw_At p s m meth c b L xs) (hL : L ≤ 384) (hi : i + 6 ≤ L) (hij : i = 6 * j) (hw : LwI w s) (hWd : Wd w G H) (hG : okG w.1.2 G) (hI : Inv w.1.2 G G) (hS : va_S (Ab w) s.heap H locs) (hl : lv_has ls 4 [(3, .int (Int32.ofInt (i : Int))), (2, .ref (w.1.1 12 0)), (1, .ref (w.1.1 11 0)), (0, .ref b)])
    (cont : ∀ K1, K1 ≤ 1 → ∀ (w2 : Wo) (G2 : PH) (H2 : Heap) (locs2 : List Loc), Agr w w2 → w2.2 = w.2 → Wd w2 G2 H2 → okG w2.1.2 G2 → Inv w2.1.2 G2 G2 → va_S (Ab w) s.heap H2 locs2 → W p l e room_1 s m #[Value.ref b] below meth c H2 locs2 (2233 + j + K1) (36355 + 12 * j + 12 * K1) Q (F0 m 2200 ls [])) :
    W p l e room_1 s m #[Value.ref b] below meth c H locs (2233 + j) (36355 + 12 * j) Q (F0 m 1002 ls []) := by
  exact law_op (K1 := 0) (js := [1, 2, 3, 4, 5]) (pc := 1002) (i1 := 99) (i2 := 102) C0 hw hWd hG hS hl hL (by omega) (by decide +kernel) ok_M_X11_says wd_s11_says wd_mLaw_99 ok_M_X12_says wd_s12_says wd_mLaw_102 ⟨by decide, by decide⟩ ⟨by decide, by decide⟩ ⟨by omega, by omega⟩ (call_says (d := 0) hI) (fun w1 r G1 h => ⟨by rw [h.1]; exact Agr.rf _, by rw [h.1]; exact h.2⟩) (cont 0 (by decide))
set_option maxRecDepth 10000 in
theorem law_c21 {p : Program} {l : Launch} {e : Env} {s : State} {m : MethodId} {below : List Frame} {meth : Method} {c : Code} {b L : Nat} {xs : Nat → Int32} {H : Heap} {locs : List Loc} {Q : State → Prop} {w : Wo} {G : PH} {i j : Nat} {ls : Array Slot} (C0 : lw_At p s m meth c b L xs) (hL : L ≤ 384) (hi : i + 6 ≤ L) (hij : i = 6 * j) (hw : LwI w s) (hWd : Wd w G H) (hG : okG w.1.2 G) (hI : Inv w.1.2 G G) (hS : va_S (Ab w) s.heap H locs) (hl : lv_has ls 4 [(3, .int (Int32.ofInt (i : Int))), (2, .ref (w.1.1 12 0)), (1, .ref (w.1.1 11 0)), (0, .ref b)])
    (cont : ∀ K1, K1 ≤ 1 → ∀ (w2 : Wo) (G2 : PH) (H2 : Heap) (locs2 : List Loc), Agr w w2 → w2.2 = w.2 → Wd w2 G2 H2 → okG w2.1.2 G2 → Inv w2.1.2 G2 G2 → va_S (Ab w) s.heap H2 locs2 → W p l e room_1 s m #[Value.ref b] below meth c H2 locs2 (2233 + j + K1) (36355 + 12 * j + 12 * K1) Q (F0 m 2200 ls [])) :
    W p l e room_1 s m #[Value.ref b] below meth c H locs (2233 + j) (36355 + 12 * j) Q (F0 m 1065 ls []) := by
  exact law_op (K1 := 0) (js := [1, 2, 3]) (pc := 1065) (i1 := 103) (i2 := 106) C0 hw hWd hG hS hl hL (by omega) (by decide +kernel) ok_M_X11_owed wd_s11_owed wd_mLaw_103 ok_M_X12_owed wd_s12_owed wd_mLaw_106 ⟨by decide, by decide⟩ ⟨by decide, by decide⟩ ⟨by omega, by omega⟩ (call_owed (d := 0) hI) (fun w1 r G1 h => ⟨by rw [h.1]; exact Agr.rf _, by rw [h.1]; exact h.2⟩) (cont 0 (by decide))
set_option maxRecDepth 10000 in
theorem law_c22 {p : Program} {l : Launch} {e : Env} {s : State} {m : MethodId} {below : List Frame} {meth : Method} {c : Code} {b L : Nat} {xs : Nat → Int32} {H : Heap} {locs : List Loc} {Q : State → Prop} {w : Wo} {G : PH} {i j : Nat} {ls : Array Slot} (C0 : lw_At p s m meth c b L xs) (hL : L ≤ 384) (hi : i + 6 ≤ L) (hij : i = 6 * j) (hw : LwI w s) (hWd : Wd w G H) (hG : okG w.1.2 G) (hI : Inv w.1.2 G G) (hS : va_S (Ab w) s.heap H locs) (hl : lv_has ls 4 [(3, .int (Int32.ofInt (i : Int))), (2, .ref (w.1.1 12 0)), (1, .ref (w.1.1 11 0)), (0, .ref b)])
    (cont : ∀ K1, K1 ≤ 1 → ∀ (w2 : Wo) (G2 : PH) (H2 : Heap) (locs2 : List Loc), Agr w w2 → w2.2 = w.2 → Wd w2 G2 H2 → okG w2.1.2 G2 → Inv w2.1.2 G2 G2 → va_S (Ab w) s.heap H2 locs2 → W p l e room_1 s m #[Value.ref b] below meth c H2 locs2 (2233 + j + K1) (36355 + 12 * j + 12 * K1) Q (F0 m 2200 ls [])) :
    W p l e room_1 s m #[Value.ref b] below meth c H locs (2233 + j) (36355 + 12 * j) Q (F0 m 1108 ls []) := by
  exact law_op (K1 := 0) (js := [1, 2, 3]) (pc := 1108) (i1 := 107) (i2 := 110) C0 hw hWd hG hS hl hL (by omega) (by decide +kernel) ok_M_X11_mayStay wd_s11_mayStay wd_mLaw_107 ok_M_X12_mayStay wd_s12_mayStay wd_mLaw_110 ⟨by decide, by decide⟩ ⟨by decide, by decide⟩ ⟨by omega, by omega⟩ (call_mayStay (d := 0) hI) (fun w1 r G1 h => ⟨by rw [h.1]; exact Agr.rf _, by rw [h.1]; exact h.2⟩) (cont 0 (by decide))
set_option maxRecDepth 10000 in
theorem law_c23 {p : Program} {l : Launch} {e : Env} {s : State} {m : MethodId} {below : List Frame} {meth : Method} {c : Code} {b L : Nat} {xs : Nat → Int32} {H : Heap} {locs : List Loc} {Q : State → Prop} {w : Wo} {G : PH} {i j : Nat} {ls : Array Slot} (C0 : lw_At p s m meth c b L xs) (hL : L ≤ 384) (hi : i + 6 ≤ L) (hij : i = 6 * j) (hw : LwI w s) (hWd : Wd w G H) (hG : okG w.1.2 G) (hI : Inv w.1.2 G G) (hS : va_S (Ab w) s.heap H locs) (hl : lv_has ls 4 [(3, .int (Int32.ofInt (i : Int))), (2, .ref (w.1.1 12 0)), (1, .ref (w.1.1 11 0)), (0, .ref b)])
    (cont : ∀ K1, K1 ≤ 1 → ∀ (w2 : Wo) (G2 : PH) (H2 : Heap) (locs2 : List Loc), Agr w w2 → w2.2 = w.2 → Wd w2 G2 H2 → okG w2.1.2 G2 → Inv w2.1.2 G2 G2 → va_S (Ab w) s.heap H2 locs2 → W p l e room_1 s m #[Value.ref b] below meth c H2 locs2 (2233 + j + K1) (36355 + 12 * j + 12 * K1) Q (F0 m 2200 ls [])) :
    W p l e room_1 s m #[Value.ref b] below meth c H locs (2233 + j) (36355 + 12 * j) Q (F0 m 1151 ls []) := by
  exact law_op (K1 := 0) (js := [1, 2, 3, 4]) (pc := 1151) (i1 := 111) (i2 := 114) C0 hw hWd hG hS hl hL (by omega) (by decide +kernel) ok_M_X11_worth wd_s11_worth wd_mLaw_111 ok_M_X12_worth wd_s12_worth wd_mLaw_114 ⟨by decide, by decide⟩ ⟨by decide, by decide⟩ ⟨by omega, by omega⟩ (call_worth (d := 0) hI) (fun w1 r G1 h => ⟨by rw [h.1]; exact Agr.rf _, by rw [h.1]; exact h.2⟩) (cont 0 (by decide))
set_option maxRecDepth 10000 in
theorem law_c24 {p : Program} {l : Launch} {e : Env} {s : State} {m : MethodId} {below : List Frame} {meth : Method} {c : Code} {b L : Nat} {xs : Nat → Int32} {H : Heap} {locs : List Loc} {Q : State → Prop} {w : Wo} {G : PH} {i j : Nat} {ls : Array Slot} (C0 : lw_At p s m meth c b L xs) (hL : L ≤ 384) (hi : i + 6 ≤ L) (hij : i = 6 * j) (hw : LwI w s) (hWd : Wd w G H) (hG : okG w.1.2 G) (hI : Inv w.1.2 G G) (hS : va_S (Ab w) s.heap H locs) (hl : lv_has ls 4 [(3, .int (Int32.ofInt (i : Int))), (2, .ref (w.1.1 12 0)), (1, .ref (w.1.1 11 0)), (0, .ref b)])
    (cont : ∀ K1, K1 ≤ 1 → ∀ (w2 : Wo) (G2 : PH) (H2 : Heap) (locs2 : List Loc), Agr w w2 → w2.2 = w.2 → Wd w2 G2 H2 → okG w2.1.2 G2 → Inv w2.1.2 G2 G2 → va_S (Ab w) s.heap H2 locs2 → W p l e room_1 s m #[Value.ref b] below meth c H2 locs2 (2233 + j + K1) (36355 + 12 * j + 12 * K1) Q (F0 m 2200 ls [])) :
    W p l e room_1 s m #[Value.ref b] below meth c H locs (2233 + j) (36355 + 12 * j) Q (F0 m 1204 ls []) := by
  exact law_op (K1 := 0) (js := [1, 2, 3, 4]) (pc := 1204) (i1 := 115) (i2 := 118) C0 hw hWd hG hS hl hL (by omega) (by decide +kernel) ok_M_X11_row wd_s11_row wd_mLaw_115 ok_M_X12_row wd_s12_row wd_mLaw_118 ⟨by decide, by decide⟩ ⟨by decide, by decide⟩ ⟨by omega, by omega⟩ (call_row (d := 0) hI) (fun w1 r G1 h => ⟨by rw [h.1]; exact Agr.rf _, by rw [h.1]; exact h.2⟩) (cont 0 (by decide))
set_option maxRecDepth 10000 in
theorem law_c25 {p : Program} {l : Launch} {e : Env} {s : State} {m : MethodId} {below : List Frame} {meth : Method} {c : Code} {b L : Nat} {xs : Nat → Int32} {H : Heap} {locs : List Loc} {Q : State → Prop} {w : Wo} {G : PH} {i j : Nat} {ls : Array Slot} (C0 : lw_At p s m meth c b L xs) (hL : L ≤ 384) (hi : i + 6 ≤ L) (hij : i = 6 * j) (hw : LwI w s) (hWd : Wd w G H) (hG : okG w.1.2 G) (hI : Inv w.1.2 G G) (hS : va_S (Ab w) s.heap H locs) (hl : lv_has ls 4 [(3, .int (Int32.ofInt (i : Int))), (2, .ref (w.1.1 12 0)), (1, .ref (w.1.1 11 0)), (0, .ref b)])
    (cont : ∀ K1, K1 ≤ 1 → ∀ (w2 : Wo) (G2 : PH) (H2 : Heap) (locs2 : List Loc), Agr w w2 → w2.2 = w.2 → Wd w2 G2 H2 → okG w2.1.2 G2 → Inv w2.1.2 G2 G2 → va_S (Ab w) s.heap H2 locs2 → W p l e room_1 s m #[Value.ref b] below meth c H2 locs2 (2233 + j + K1) (36355 + 12 * j + 12 * K1) Q (F0 m 2200 ls [])) :
    W p l e room_1 s m #[Value.ref b] below meth c H locs (2233 + j) (36355 + 12 * j) Q (F0 m 1257 ls []) := by
  exact law_op (K1 := 0) (js := [1, 2, 3]) (pc := 1257) (i1 := 119) (i2 := 122) C0 hw hWd hG hS hl hL (by omega) (by decide +kernel) ok_M_X11_canBe wd_s11_canBe wd_mLaw_119 ok_M_X12_canBe wd_s12_canBe wd_mLaw_122 ⟨by decide, by decide⟩ ⟨by decide, by decide⟩ ⟨by omega, by omega⟩ (call_canBe (d := 0) hI) (fun w1 r G1 h => ⟨by rw [h.1]; exact Agr.rf _, by rw [h.1]; exact h.2⟩) (cont 0 (by decide))
set_option maxRecDepth 10000 in
theorem law_c26 {p : Program} {l : Launch} {e : Env} {s : State} {m : MethodId} {below : List Frame} {meth : Method} {c : Code} {b L : Nat} {xs : Nat → Int32} {H : Heap} {locs : List Loc} {Q : State → Prop} {w : Wo} {G : PH} {i j : Nat} {ls : Array Slot} (C0 : lw_At p s m meth c b L xs) (hL : L ≤ 384) (hi : i + 6 ≤ L) (hij : i = 6 * j) (hw : LwI w s) (hWd : Wd w G H) (hG : okG w.1.2 G) (hI : Inv w.1.2 G G) (hS : va_S (Ab w) s.heap H locs) (hl : lv_has ls 4 [(3, .int (Int32.ofInt (i : Int))), (2, .ref (w.1.1 12 0)), (1, .ref (w.1.1 11 0)), (0, .ref b)])
    (cont : ∀ K1, K1 ≤ 1 → ∀ (w2 : Wo) (G2 : PH) (H2 : Heap) (locs2 : List Loc), Agr w w2 → w2.2 = w.2 → Wd w2 G2 H2 → okG w2.1.2 G2 → Inv w2.1.2 G2 G2 → va_S (Ab w) s.heap H2 locs2 → W p l e room_1 s m #[Value.ref b] below meth c H2 locs2 (2233 + j + K1) (36355 + 12 * j + 12 * K1) Q (F0 m 2200 ls [])) :
    W p l e room_1 s m #[Value.ref b] below meth c H locs (2233 + j) (36355 + 12 * j) Q (F0 m 1300 ls []) := by
  exact law_op (K1 := 0) (js := [1, 2, 3]) (pc := 1300) (i1 := 123) (i2 := 126) C0 hw hWd hG hS hl hL (by omega) (by decide +kernel) ok_M_X11_same wd_s11_same wd_mLaw_123 ok_M_X12_same wd_s12_same wd_mLaw_126 ⟨by decide, by decide⟩ ⟨by decide, by decide⟩ ⟨by omega, by omega⟩ (call_same (d := 0) hI) (fun w1 r G1 h => ⟨by rw [h.1]; exact Agr.rf _, by rw [h.1]; exact h.2⟩) (cont 0 (by decide))
set_option maxRecDepth 10000 in
theorem law_c27 {p : Program} {l : Launch} {e : Env} {s : State} {m : MethodId} {below : List Frame} {meth : Method} {c : Code} {b L : Nat} {xs : Nat → Int32} {H : Heap} {locs : List Loc} {Q : State → Prop} {w : Wo} {G : PH} {i j : Nat} {ls : Array Slot} (C0 : lw_At p s m meth c b L xs) (hL : L ≤ 384) (hi : i + 6 ≤ L) (hij : i = 6 * j) (hw : LwI w s) (hWd : Wd w G H) (hG : okG w.1.2 G) (hI : Inv w.1.2 G G) (hS : va_S (Ab w) s.heap H locs) (hl : lv_has ls 4 [(3, .int (Int32.ofInt (i : Int))), (2, .ref (w.1.1 12 0)), (1, .ref (w.1.1 11 0)), (0, .ref b)])
    (cont : ∀ K1, K1 ≤ 1 → ∀ (w2 : Wo) (G2 : PH) (H2 : Heap) (locs2 : List Loc), Agr w w2 → w2.2 = w.2 → Wd w2 G2 H2 → okG w2.1.2 G2 → Inv w2.1.2 G2 G2 → va_S (Ab w) s.heap H2 locs2 → W p l e room_1 s m #[Value.ref b] below meth c H2 locs2 (2233 + j + K1) (36355 + 12 * j + 12 * K1) Q (F0 m 2200 ls [])) :
    W p l e room_1 s m #[Value.ref b] below meth c H locs (2233 + j) (36355 + 12 * j) Q (F0 m 1343 ls []) := by
  exact law_op (K1 := 0) (js := [1]) (pc := 1343) (i1 := 127) (i2 := 130) C0 hw hWd hG hS hl hL (by omega) (by decide +kernel) ok_M_X11_joined wd_s11_joined wd_mLaw_127 ok_M_X12_joined wd_s12_joined wd_mLaw_130 ⟨by decide, by decide⟩ ⟨by decide, by decide⟩ ⟨by omega, by omega⟩ (call_joined (d := 0) hI) (fun w1 r G1 h => ⟨by rw [h.1]; exact Agr.rf _, by rw [h.1]; exact h.2⟩) (cont 0 (by decide))
set_option maxRecDepth 10000 in
theorem law_c28 {p : Program} {l : Launch} {e : Env} {s : State} {m : MethodId} {below : List Frame} {meth : Method} {c : Code} {b L : Nat} {xs : Nat → Int32} {H : Heap} {locs : List Loc} {Q : State → Prop} {w : Wo} {G : PH} {i j : Nat} {ls : Array Slot} (C0 : lw_At p s m meth c b L xs) (hL : L ≤ 384) (hi : i + 6 ≤ L) (hij : i = 6 * j) (hw : LwI w s) (hWd : Wd w G H) (hG : okG w.1.2 G) (hI : Inv w.1.2 G G) (hS : va_S (Ab w) s.heap H locs) (hl : lv_has ls 4 [(3, .int (Int32.ofInt (i : Int))), (2, .ref (w.1.1 12 0)), (1, .ref (w.1.1 11 0)), (0, .ref b)])
    (cont : ∀ K1, K1 ≤ 1 → ∀ (w2 : Wo) (G2 : PH) (H2 : Heap) (locs2 : List Loc), Agr w w2 → w2.2 = w.2 → Wd w2 G2 H2 → okG w2.1.2 G2 → Inv w2.1.2 G2 G2 → va_S (Ab w) s.heap H2 locs2 → W p l e room_1 s m #[Value.ref b] below meth c H2 locs2 (2233 + j + K1) (36355 + 12 * j + 12 * K1) Q (F0 m 2200 ls [])) :
    W p l e room_1 s m #[Value.ref b] below meth c H locs (2233 + j) (36355 + 12 * j) Q (F0 m 1366 ls []) := by
  exact law_op (K1 := 0) (js := [1]) (pc := 1366) (i1 := 131) (i2 := 134) C0 hw hWd hG hS hl hL (by omega) (by decide +kernel) ok_M_X11_clash wd_s11_clash wd_mLaw_131 ok_M_X12_clash wd_s12_clash wd_mLaw_134 ⟨by decide, by decide⟩ ⟨by decide, by decide⟩ ⟨by omega, by omega⟩ (call_clash (d := 0) hI) (fun w1 r G1 h => ⟨by rw [h.1]; exact Agr.rf _, by rw [h.1]; exact h.2⟩) (cont 0 (by decide))
set_option maxRecDepth 10000 in
theorem law_c29 {p : Program} {l : Launch} {e : Env} {s : State} {m : MethodId} {below : List Frame} {meth : Method} {c : Code} {b L : Nat} {xs : Nat → Int32} {H : Heap} {locs : List Loc} {Q : State → Prop} {w : Wo} {G : PH} {i j : Nat} {ls : Array Slot} (C0 : lw_At p s m meth c b L xs) (hL : L ≤ 384) (hi : i + 6 ≤ L) (hij : i = 6 * j) (hw : LwI w s) (hWd : Wd w G H) (hG : okG w.1.2 G) (hI : Inv w.1.2 G G) (hS : va_S (Ab w) s.heap H locs) (hl : lv_has ls 4 [(3, .int (Int32.ofInt (i : Int))), (2, .ref (w.1.1 12 0)), (1, .ref (w.1.1 11 0)), (0, .ref b)])
    (cont : ∀ K1, K1 ≤ 1 → ∀ (w2 : Wo) (G2 : PH) (H2 : Heap) (locs2 : List Loc), Agr w w2 → w2.2 = w.2 → Wd w2 G2 H2 → okG w2.1.2 G2 → Inv w2.1.2 G2 G2 → va_S (Ab w) s.heap H2 locs2 → W p l e room_1 s m #[Value.ref b] below meth c H2 locs2 (2233 + j + K1) (36355 + 12 * j + 12 * K1) Q (F0 m 2200 ls [])) :
    W p l e room_1 s m #[Value.ref b] below meth c H locs (2233 + j) (36355 + 12 * j) Q (F0 m 1389 ls []) := by
  exact law_op (K1 := 0) (js := [1, 2, 3, 4]) (pc := 1389) (i1 := 135) (i2 := 138) C0 hw hWd hG hS hl hL (by omega) (by decide +kernel) ok_M_X11_list wd_s11_list wd_mLaw_135 ok_M_X12_list wd_s12_list wd_mLaw_138 ⟨by decide, by decide⟩ ⟨by decide, by decide⟩ ⟨by omega, by omega⟩ (call_list (d := 0) hI) (fun w1 r G1 h => ⟨by rw [h.1]; exact Agr.rf _, by rw [h.1]; exact h.2⟩) (cont 0 (by decide))
set_option maxRecDepth 10000 in
theorem law_c30 {p : Program} {l : Launch} {e : Env} {s : State} {m : MethodId} {below : List Frame} {meth : Method} {c : Code} {b L : Nat} {xs : Nat → Int32} {H : Heap} {locs : List Loc} {Q : State → Prop} {w : Wo} {G : PH} {i j : Nat} {ls : Array Slot} (C0 : lw_At p s m meth c b L xs) (hL : L ≤ 384) (hi : i + 6 ≤ L) (hij : i = 6 * j) (hw : LwI w s) (hWd : Wd w G H) (hG : okG w.1.2 G) (hI : Inv w.1.2 G G) (hS : va_S (Ab w) s.heap H locs) (hl : lv_has ls 4 [(3, .int (Int32.ofInt (i : Int))), (2, .ref (w.1.1 12 0)), (1, .ref (w.1.1 11 0)), (0, .ref b)])
    (cont : ∀ K1, K1 ≤ 1 → ∀ (w2 : Wo) (G2 : PH) (H2 : Heap) (locs2 : List Loc), Agr w w2 → w2.2 = w.2 → Wd w2 G2 H2 → okG w2.1.2 G2 → Inv w2.1.2 G2 G2 → va_S (Ab w) s.heap H2 locs2 → W p l e room_1 s m #[Value.ref b] below meth c H2 locs2 (2233 + j + K1) (36355 + 12 * j + 12 * K1) Q (F0 m 2200 ls [])) :
    W p l e room_1 s m #[Value.ref b] below meth c H locs (2233 + j) (36355 + 12 * j) Q (F0 m 1442 ls []) := by
  exact law_op (K1 := 0) (js := [1]) (pc := 1442) (i1 := 139) (i2 := 142) C0 hw hWd hG hS hl hL (by omega) (by decide +kernel) ok_M_X11_offer wd_s11_offer wd_mLaw_139 ok_M_X12_offer wd_s12_offer wd_mLaw_142 ⟨by decide, by decide⟩ ⟨by decide, by decide⟩ ⟨by omega, by omega⟩ (call_offer (d := 0) hI) (fun w1 r G1 h => ⟨by rw [h.1]; exact Agr.rf _, by rw [h.1]; exact h.2⟩) (cont 0 (by decide))
set_option maxRecDepth 10000 in
theorem law_c31 {p : Program} {l : Launch} {e : Env} {s : State} {m : MethodId} {below : List Frame} {meth : Method} {c : Code} {b L : Nat} {xs : Nat → Int32} {H : Heap} {locs : List Loc} {Q : State → Prop} {w : Wo} {G : PH} {i j : Nat} {ls : Array Slot} (C0 : lw_At p s m meth c b L xs) (hL : L ≤ 384) (hi : i + 6 ≤ L) (hij : i = 6 * j) (hw : LwI w s) (hWd : Wd w G H) (hG : okG w.1.2 G) (hI : Inv w.1.2 G G) (hS : va_S (Ab w) s.heap H locs) (hl : lv_has ls 4 [(3, .int (Int32.ofInt (i : Int))), (2, .ref (w.1.1 12 0)), (1, .ref (w.1.1 11 0)), (0, .ref b)])
    (cont : ∀ K1, K1 ≤ 1 → ∀ (w2 : Wo) (G2 : PH) (H2 : Heap) (locs2 : List Loc), Agr w w2 → w2.2 = w.2 → Wd w2 G2 H2 → okG w2.1.2 G2 → Inv w2.1.2 G2 G2 → va_S (Ab w) s.heap H2 locs2 → W p l e room_1 s m #[Value.ref b] below meth c H2 locs2 (2233 + j + K1) (36355 + 12 * j + 12 * K1) Q (F0 m 2200 ls [])) :
    W p l e room_1 s m #[Value.ref b] below meth c H locs (2233 + j) (36355 + 12 * j) Q (F0 m 1465 ls []) := by
  exact law_op (K1 := 0) (js := [1]) (pc := 1465) (i1 := 143) (i2 := 146) C0 hw hWd hG hS hl hL (by omega) (by decide +kernel) ok_M_X11_ratio wd_s11_ratio wd_mLaw_143 ok_M_X12_ratio wd_s12_ratio wd_mLaw_146 ⟨by decide, by decide⟩ ⟨by decide, by decide⟩ ⟨by omega, by omega⟩ (call_ratio (d := 0) hI) (fun w1 r G1 h => ⟨by rw [h.1]; exact Agr.rf _, by rw [h.1]; exact h.2⟩) (cont 0 (by decide))
set_option maxRecDepth 10000 in
theorem law_c32 {p : Program} {l : Launch} {e : Env} {s : State} {m : MethodId} {below : List Frame} {meth : Method} {c : Code} {b L : Nat} {xs : Nat → Int32} {H : Heap} {locs : List Loc} {Q : State → Prop} {w : Wo} {G : PH} {i j : Nat} {ls : Array Slot} (C0 : lw_At p s m meth c b L xs) (hL : L ≤ 384) (hi : i + 6 ≤ L) (hij : i = 6 * j) (hw : LwI w s) (hWd : Wd w G H) (hG : okG w.1.2 G) (hI : Inv w.1.2 G G) (hS : va_S (Ab w) s.heap H locs) (hl : lv_has ls 4 [(3, .int (Int32.ofInt (i : Int))), (2, .ref (w.1.1 12 0)), (1, .ref (w.1.1 11 0)), (0, .ref b)])
    (cont : ∀ K1, K1 ≤ 1 → ∀ (w2 : Wo) (G2 : PH) (H2 : Heap) (locs2 : List Loc), Agr w w2 → w2.2 = w.2 → Wd w2 G2 H2 → okG w2.1.2 G2 → Inv w2.1.2 G2 G2 → va_S (Ab w) s.heap H2 locs2 → W p l e room_1 s m #[Value.ref b] below meth c H2 locs2 (2233 + j + K1) (36355 + 12 * j + 12 * K1) Q (F0 m 2200 ls [])) :
    W p l e room_1 s m #[Value.ref b] below meth c H locs (2233 + j) (36355 + 12 * j) Q (F0 m 1488 ls []) := by
  exact law_op (K1 := 0) (js := [1, 2]) (pc := 1488) (i1 := 147) (i2 := 150) C0 hw hWd hG hS hl hL (by omega) (by decide +kernel) ok_M_X11_judge wd_s11_judge wd_mLaw_147 ok_M_X12_judge wd_s12_judge wd_mLaw_150 ⟨by decide, by decide⟩ ⟨by decide, by decide⟩ ⟨by omega, by omega⟩ (call_judge (d := 0) hI) (fun w1 r G1 h => ⟨by rw [h.1]; exact Agr.rf _, by rw [h.1]; exact h.2⟩) (cont 0 (by decide))
set_option maxRecDepth 10000 in
theorem law_c33 {p : Program} {l : Launch} {e : Env} {s : State} {m : MethodId} {below : List Frame} {meth : Method} {c : Code} {b L : Nat} {xs : Nat → Int32} {H : Heap} {locs : List Loc} {Q : State → Prop} {w : Wo} {G : PH} {i j : Nat} {ls : Array Slot} (C0 : lw_At p s m meth c b L xs) (hL : L ≤ 384) (hi : i + 6 ≤ L) (hij : i = 6 * j) (hw : LwI w s) (hWd : Wd w G H) (hG : okG w.1.2 G) (hI : Inv w.1.2 G G) (hS : va_S (Ab w) s.heap H locs) (hl : lv_has ls 4 [(3, .int (Int32.ofInt (i : Int))), (2, .ref (w.1.1 12 0)), (1, .ref (w.1.1 11 0)), (0, .ref b)])
    (cont : ∀ K1, K1 ≤ 1 → ∀ (w2 : Wo) (G2 : PH) (H2 : Heap) (locs2 : List Loc), Agr w w2 → w2.2 = w.2 → Wd w2 G2 H2 → okG w2.1.2 G2 → Inv w2.1.2 G2 G2 → va_S (Ab w) s.heap H2 locs2 → W p l e room_1 s m #[Value.ref b] below meth c H2 locs2 (2233 + j + K1) (36355 + 12 * j + 12 * K1) Q (F0 m 2200 ls [])) :
    W p l e room_1 s m #[Value.ref b] below meth c H locs (2233 + j) (36355 + 12 * j) Q (F0 m 1521 ls []) := by
  exact law_op (K1 := 0) (js := []) (pc := 1521) (i1 := 151) (i2 := 154) C0 hw hWd hG hS hl hL (by omega) (by decide +kernel) ok_M_X11_best wd_s11_best wd_mLaw_151 ok_M_X12_best wd_s12_best wd_mLaw_154 ⟨by decide, by decide⟩ ⟨by decide, by decide⟩ ⟨by omega, by omega⟩ (call_best (d := 0) hI) (fun w1 r G1 h => ⟨by rw [h.1]; exact Agr.rf _, by rw [h.1]; exact h.2⟩) (cont 0 (by decide))
set_option maxRecDepth 10000 in
theorem law_c34 {p : Program} {l : Launch} {e : Env} {s : State} {m : MethodId} {below : List Frame} {meth : Method} {c : Code} {b L : Nat} {xs : Nat → Int32} {H : Heap} {locs : List Loc} {Q : State → Prop} {w : Wo} {G : PH} {i j : Nat} {ls : Array Slot} (C0 : lw_At p s m meth c b L xs) (hL : L ≤ 384) (hi : i + 6 ≤ L) (hij : i = 6 * j) (hw : LwI w s) (hWd : Wd w G H) (hG : okG w.1.2 G) (hI : Inv w.1.2 G G) (hS : va_S (Ab w) s.heap H locs) (hl : lv_has ls 4 [(3, .int (Int32.ofInt (i : Int))), (2, .ref (w.1.1 12 0)), (1, .ref (w.1.1 11 0)), (0, .ref b)])
    (cont : ∀ K1, K1 ≤ 1 → ∀ (w2 : Wo) (G2 : PH) (H2 : Heap) (locs2 : List Loc), Agr w w2 → w2.2 = w.2 → Wd w2 G2 H2 → okG w2.1.2 G2 → Inv w2.1.2 G2 G2 → va_S (Ab w) s.heap H2 locs2 → W p l e room_1 s m #[Value.ref b] below meth c H2 locs2 (2233 + j + K1) (36355 + 12 * j + 12 * K1) Q (F0 m 2200 ls [])) :
    W p l e room_1 s m #[Value.ref b] below meth c H locs (2233 + j) (36355 + 12 * j) Q (F0 m 1534 ls []) := by
  exact law_op (K1 := 0) (js := [1]) (pc := 1534) (i1 := 155) (i2 := 158) C0 hw hWd hG hS hl hL (by omega) (by decide +kernel) ok_M_X11_bestOf wd_s11_bestOf wd_mLaw_155 ok_M_X12_bestOf wd_s12_bestOf wd_mLaw_158 ⟨by decide, by decide⟩ ⟨by decide, by decide⟩ ⟨by omega, by omega⟩ (call_bestOf (d := 0) hI) (fun w1 r G1 h => ⟨by rw [h.1]; exact Agr.rf _, by rw [h.1]; exact h.2⟩) (cont 0 (by decide))
set_option maxRecDepth 10000 in
theorem law_c35 {p : Program} {l : Launch} {e : Env} {s : State} {m : MethodId} {below : List Frame} {meth : Method} {c : Code} {b L : Nat} {xs : Nat → Int32} {H : Heap} {locs : List Loc} {Q : State → Prop} {w : Wo} {G : PH} {i j : Nat} {ls : Array Slot} (C0 : lw_At p s m meth c b L xs) (hL : L ≤ 384) (hi : i + 6 ≤ L) (hij : i = 6 * j) (hw : LwI w s) (hWd : Wd w G H) (hG : okG w.1.2 G) (hI : Inv w.1.2 G G) (hS : va_S (Ab w) s.heap H locs) (hl : lv_has ls 4 [(3, .int (Int32.ofInt (i : Int))), (2, .ref (w.1.1 12 0)), (1, .ref (w.1.1 11 0)), (0, .ref b)])
    (cont : ∀ K1, K1 ≤ 1 → ∀ (w2 : Wo) (G2 : PH) (H2 : Heap) (locs2 : List Loc), Agr w w2 → w2.2 = w.2 → Wd w2 G2 H2 → okG w2.1.2 G2 → Inv w2.1.2 G2 G2 → va_S (Ab w) s.heap H2 locs2 → W p l e room_1 s m #[Value.ref b] below meth c H2 locs2 (2233 + j + K1) (36355 + 12 * j + 12 * K1) Q (F0 m 2200 ls [])) :
    W p l e room_1 s m #[Value.ref b] below meth c H locs (2233 + j) (36355 + 12 * j) Q (F0 m 1557 ls []) := by
  exact law_op (K1 := 0) (js := [1, 2, 3]) (pc := 1557) (i1 := 159) (i2 := 162) C0 hw hWd hG hS hl hL (by omega) (by decide +kernel) ok_M_X11_load wd_s11_load wd_mLaw_159 ok_M_X12_load wd_s12_load wd_mLaw_162 ⟨by decide, by decide⟩ ⟨by decide, by decide⟩ ⟨by omega, by omega⟩ (call_load (d := 0) hI) (fun w1 r G1 h => ⟨by rw [h.1]; exact Agr.rf _, by rw [h.1]; exact h.2⟩) (cont 0 (by decide))
set_option maxRecDepth 10000 in
theorem law_c36 {p : Program} {l : Launch} {e : Env} {s : State} {m : MethodId} {below : List Frame} {meth : Method} {c : Code} {b L : Nat} {xs : Nat → Int32} {H : Heap} {locs : List Loc} {Q : State → Prop} {w : Wo} {G : PH} {i j : Nat} {ls : Array Slot} (C0 : lw_At p s m meth c b L xs) (hL : L ≤ 384) (hi : i + 6 ≤ L) (hij : i = 6 * j) (hw : LwI w s) (hWd : Wd w G H) (hG : okG w.1.2 G) (hI : Inv w.1.2 G G) (hS : va_S (Ab w) s.heap H locs) (hl : lv_has ls 4 [(3, .int (Int32.ofInt (i : Int))), (2, .ref (w.1.1 12 0)), (1, .ref (w.1.1 11 0)), (0, .ref b)])
    (cont : ∀ K1, K1 ≤ 1 → ∀ (w2 : Wo) (G2 : PH) (H2 : Heap) (locs2 : List Loc), Agr w w2 → w2.2 = w.2 → Wd w2 G2 H2 → okG w2.1.2 G2 → Inv w2.1.2 G2 G2 → va_S (Ab w) s.heap H2 locs2 → W p l e room_1 s m #[Value.ref b] below meth c H2 locs2 (2233 + j + K1) (36355 + 12 * j + 12 * K1) Q (F0 m 2200 ls [])) :
    W p l e room_1 s m #[Value.ref b] below meth c H locs (2233 + j) (36355 + 12 * j) Q (F0 m 1600 ls []) := by
  exact law_op (K1 := 0) (js := [1, 2, 3]) (pc := 1600) (i1 := 163) (i2 := 166) C0 hw hWd hG hS hl hL (by omega) (by decide +kernel) ok_M_X11_sail wd_s11_sail wd_mLaw_163 ok_M_X12_sail wd_s12_sail wd_mLaw_166 ⟨by decide, by decide⟩ ⟨by decide, by decide⟩ ⟨by omega, by omega⟩ (call_sail (d := 0) hI) (fun w1 r G1 h => ⟨by rw [h.1]; exact Agr.rf _, by rw [h.1]; exact h.2⟩) (cont 0 (by decide))
set_option maxRecDepth 10000 in
theorem law_c37 {p : Program} {l : Launch} {e : Env} {s : State} {m : MethodId} {below : List Frame} {meth : Method} {c : Code} {b L : Nat} {xs : Nat → Int32} {H : Heap} {locs : List Loc} {Q : State → Prop} {w : Wo} {G : PH} {i j : Nat} {ls : Array Slot} (C0 : lw_At p s m meth c b L xs) (hL : L ≤ 384) (hi : i + 6 ≤ L) (hij : i = 6 * j) (hw : LwI w s) (hWd : Wd w G H) (hG : okG w.1.2 G) (hI : Inv w.1.2 G G) (hS : va_S (Ab w) s.heap H locs) (hl : lv_has ls 4 [(3, .int (Int32.ofInt (i : Int))), (2, .ref (w.1.1 12 0)), (1, .ref (w.1.1 11 0)), (0, .ref b)])
    (cont : ∀ K1, K1 ≤ 1 → ∀ (w2 : Wo) (G2 : PH) (H2 : Heap) (locs2 : List Loc), Agr w w2 → w2.2 = w.2 → Wd w2 G2 H2 → okG w2.1.2 G2 → Inv w2.1.2 G2 G2 → va_S (Ab w) s.heap H2 locs2 → W p l e room_1 s m #[Value.ref b] below meth c H2 locs2 (2233 + j + K1) (36355 + 12 * j + 12 * K1) Q (F0 m 2200 ls [])) :
    W p l e room_1 s m #[Value.ref b] below meth c H locs (2233 + j) (36355 + 12 * j) Q (F0 m 1643 ls []) := by
  exact law_op (K1 := 0) (js := [1, 2]) (pc := 1643) (i1 := 167) (i2 := 170) C0 hw hWd hG hS hl hL (by omega) (by decide +kernel) ok_M_X11_voyage wd_s11_voyage wd_mLaw_167 ok_M_X12_voyage wd_s12_voyage wd_mLaw_170 ⟨by decide, by decide⟩ ⟨by decide, by decide⟩ ⟨by omega, by omega⟩ (call_voyage (d := 0) hI) (fun w1 r G1 h => ⟨by rw [h.1]; exact Agr.rf _, by rw [h.1]; exact h.2⟩) (cont 0 (by decide))
set_option maxRecDepth 10000 in
theorem law_c38 {p : Program} {l : Launch} {e : Env} {s : State} {m : MethodId} {below : List Frame} {meth : Method} {c : Code} {b L : Nat} {xs : Nat → Int32} {H : Heap} {locs : List Loc} {Q : State → Prop} {w : Wo} {G : PH} {i j : Nat} {ls : Array Slot} (C0 : lw_At p s m meth c b L xs) (hL : L ≤ 384) (hi : i + 6 ≤ L) (hij : i = 6 * j) (hw : LwI w s) (hWd : Wd w G H) (hG : okG w.1.2 G) (hI : Inv w.1.2 G G) (hS : va_S (Ab w) s.heap H locs) (hl : lv_has ls 4 [(3, .int (Int32.ofInt (i : Int))), (2, .ref (w.1.1 12 0)), (1, .ref (w.1.1 11 0)), (0, .ref b)])
    (cont : ∀ K1, K1 ≤ 1 → ∀ (w2 : Wo) (G2 : PH) (H2 : Heap) (locs2 : List Loc), Agr w w2 → w2.2 = w.2 → Wd w2 G2 H2 → okG w2.1.2 G2 → Inv w2.1.2 G2 G2 → va_S (Ab w) s.heap H2 locs2 → W p l e room_1 s m #[Value.ref b] below meth c H2 locs2 (2233 + j + K1) (36355 + 12 * j + 12 * K1) Q (F0 m 2200 ls [])) :
    W p l e room_1 s m #[Value.ref b] below meth c H locs (2233 + j) (36355 + 12 * j) Q (F0 m 1676 ls []) := by
  exact law_op (K1 := 0) (js := [1, 2]) (pc := 1676) (i1 := 171) (i2 := 174) C0 hw hWd hG hS hl hL (by omega) (by decide +kernel) ok_M_X11_walker wd_s11_walker wd_mLaw_171 ok_M_X12_walker wd_s12_walker wd_mLaw_174 ⟨by decide, by decide⟩ ⟨by decide, by decide⟩ ⟨by omega, by omega⟩ (call_walker (d := 0) hI) (fun w1 r G1 h => ⟨by rw [h.1]; exact Agr.rf _, by rw [h.1]; exact h.2⟩) (cont 0 (by decide))
set_option maxRecDepth 10000 in
theorem law_c39 {p : Program} {l : Launch} {e : Env} {s : State} {m : MethodId} {below : List Frame} {meth : Method} {c : Code} {b L : Nat} {xs : Nat → Int32} {H : Heap} {locs : List Loc} {Q : State → Prop} {w : Wo} {G : PH} {i j : Nat} {ls : Array Slot} (C0 : lw_At p s m meth c b L xs) (hL : L ≤ 384) (hi : i + 6 ≤ L) (hij : i = 6 * j) (hw : LwI w s) (hWd : Wd w G H) (hG : okG w.1.2 G) (hI : Inv w.1.2 G G) (hS : va_S (Ab w) s.heap H locs) (hl : lv_has ls 4 [(3, .int (Int32.ofInt (i : Int))), (2, .ref (w.1.1 12 0)), (1, .ref (w.1.1 11 0)), (0, .ref b)])
    (cont : ∀ K1, K1 ≤ 1 → ∀ (w2 : Wo) (G2 : PH) (H2 : Heap) (locs2 : List Loc), Agr w w2 → w2.2 = w.2 → Wd w2 G2 H2 → okG w2.1.2 G2 → Inv w2.1.2 G2 G2 → va_S (Ab w) s.heap H2 locs2 → W p l e room_1 s m #[Value.ref b] below meth c H2 locs2 (2233 + j + K1) (36355 + 12 * j + 12 * K1) Q (F0 m 2200 ls [])) :
    W p l e room_1 s m #[Value.ref b] below meth c H locs (2233 + j) (36355 + 12 * j) Q (F0 m 1709 ls []) := by
  exact law_op (K1 := 0) (js := [1]) (pc := 1709) (i1 := 175) (i2 := 178) C0 hw hWd hG hS hl hL (by omega) (by decide +kernel) ok_M_X11_bridge wd_s11_bridge wd_mLaw_175 ok_M_X12_bridge wd_s12_bridge wd_mLaw_178 ⟨by decide, by decide⟩ ⟨by decide, by decide⟩ ⟨by omega, by omega⟩ (call_bridge (d := 0) hI) (fun w1 r G1 h => ⟨by rw [h.1]; exact Agr.rf _, by rw [h.1]; exact h.2⟩) (cont 0 (by decide))
set_option maxRecDepth 10000 in
theorem law_c40 {p : Program} {l : Launch} {e : Env} {s : State} {m : MethodId} {below : List Frame} {meth : Method} {c : Code} {b L : Nat} {xs : Nat → Int32} {H : Heap} {locs : List Loc} {Q : State → Prop} {w : Wo} {G : PH} {i j : Nat} {ls : Array Slot} (C0 : lw_At p s m meth c b L xs) (hL : L ≤ 384) (hi : i + 6 ≤ L) (hij : i = 6 * j) (hw : LwI w s) (hWd : Wd w G H) (hG : okG w.1.2 G) (hI : Inv w.1.2 G G) (hS : va_S (Ab w) s.heap H locs) (hl : lv_has ls 4 [(3, .int (Int32.ofInt (i : Int))), (2, .ref (w.1.1 12 0)), (1, .ref (w.1.1 11 0)), (0, .ref b)])
    (cont : ∀ K1, K1 ≤ 1 → ∀ (w2 : Wo) (G2 : PH) (H2 : Heap) (locs2 : List Loc), Agr w w2 → w2.2 = w.2 → Wd w2 G2 H2 → okG w2.1.2 G2 → Inv w2.1.2 G2 G2 → va_S (Ab w) s.heap H2 locs2 → W p l e room_1 s m #[Value.ref b] below meth c H2 locs2 (2233 + j + K1) (36355 + 12 * j + 12 * K1) Q (F0 m 2200 ls [])) :
    W p l e room_1 s m #[Value.ref b] below meth c H locs (2233 + j) (36355 + 12 * j) Q (F0 m 1732 ls []) := by
  exact law_op (K1 := 0) (js := [1]) (pc := 1732) (i1 := 179) (i2 := 182) C0 hw hWd hG hS hl hL (by omega) (by decide +kernel) ok_M_X11_began wd_s11_began wd_mLaw_179 ok_M_X12_began wd_s12_began wd_mLaw_182 ⟨by decide, by decide⟩ ⟨by decide, by decide⟩ ⟨by omega, by omega⟩ (call_began (d := 0) hI) (fun w1 r G1 h => ⟨by rw [h.1]; exact Agr.rf _, by rw [h.1]; exact h.2⟩) (cont 0 (by decide))
set_option maxRecDepth 10000 in
theorem law_c41 {p : Program} {l : Launch} {e : Env} {s : State} {m : MethodId} {below : List Frame} {meth : Method} {c : Code} {b L : Nat} {xs : Nat → Int32} {H : Heap} {locs : List Loc} {Q : State → Prop} {w : Wo} {G : PH} {i j : Nat} {ls : Array Slot} (C0 : lw_At p s m meth c b L xs) (hL : L ≤ 384) (hi : i + 6 ≤ L) (hij : i = 6 * j) (hw : LwI w s) (hWd : Wd w G H) (hG : okG w.1.2 G) (hI : Inv w.1.2 G G) (hS : va_S (Ab w) s.heap H locs) (hl : lv_has ls 4 [(3, .int (Int32.ofInt (i : Int))), (2, .ref (w.1.1 12 0)), (1, .ref (w.1.1 11 0)), (0, .ref b)])
    (cont : ∀ K1, K1 ≤ 1 → ∀ (w2 : Wo) (G2 : PH) (H2 : Heap) (locs2 : List Loc), Agr w w2 → w2.2 = w.2 → Wd w2 G2 H2 → okG w2.1.2 G2 → Inv w2.1.2 G2 G2 → va_S (Ab w) s.heap H2 locs2 → W p l e room_1 s m #[Value.ref b] below meth c H2 locs2 (2233 + j + K1) (36355 + 12 * j + 12 * K1) Q (F0 m 2200 ls [])) :
    W p l e room_1 s m #[Value.ref b] below meth c H locs (2233 + j) (36355 + 12 * j) Q (F0 m 1755 ls []) := by
  exact law_op (K1 := 0) (js := [1, 2, 3]) (pc := 1755) (i1 := 183) (i2 := 186) C0 hw hWd hG hS hl hL (by omega) (by decide +kernel) ok_M_X11_sought wd_s11_sought wd_mLaw_183 ok_M_X12_sought wd_s12_sought wd_mLaw_186 ⟨by decide, by decide⟩ ⟨by decide, by decide⟩ ⟨by omega, by omega⟩ (call_sought (d := 0) hI) (fun w1 r G1 h => ⟨by rw [h.1]; exact Agr.rf _, by rw [h.1]; exact h.2⟩) (cont 0 (by decide))
set_option maxRecDepth 10000 in
theorem law_c42 {p : Program} {l : Launch} {e : Env} {s : State} {m : MethodId} {below : List Frame} {meth : Method} {c : Code} {b L : Nat} {xs : Nat → Int32} {H : Heap} {locs : List Loc} {Q : State → Prop} {w : Wo} {G : PH} {i j : Nat} {ls : Array Slot} (C0 : lw_At p s m meth c b L xs) (hL : L ≤ 384) (hi : i + 6 ≤ L) (hij : i = 6 * j) (hw : LwI w s) (hWd : Wd w G H) (hG : okG w.1.2 G) (hI : Inv w.1.2 G G) (hS : va_S (Ab w) s.heap H locs) (hl : lv_has ls 4 [(3, .int (Int32.ofInt (i : Int))), (2, .ref (w.1.1 12 0)), (1, .ref (w.1.1 11 0)), (0, .ref b)])
    (cont : ∀ K1, K1 ≤ 1 → ∀ (w2 : Wo) (G2 : PH) (H2 : Heap) (locs2 : List Loc), Agr w w2 → w2.2 = w.2 → Wd w2 G2 H2 → okG w2.1.2 G2 → Inv w2.1.2 G2 G2 → va_S (Ab w) s.heap H2 locs2 → W p l e room_1 s m #[Value.ref b] below meth c H2 locs2 (2233 + j + K1) (36355 + 12 * j + 12 * K1) Q (F0 m 2200 ls [])) :
    W p l e room_1 s m #[Value.ref b] below meth c H locs (2233 + j) (36355 + 12 * j) Q (F0 m 1798 ls []) := by
  exact law_op (K1 := 0) (js := [1]) (pc := 1798) (i1 := 187) (i2 := 190) C0 hw hWd hG hS hl hL (by omega) (by decide +kernel) ok_M_X11_find wd_s11_find wd_mLaw_187 ok_M_X12_find wd_s12_find wd_mLaw_190 ⟨by decide, by decide⟩ ⟨by decide, by decide⟩ ⟨by omega, by omega⟩ (call_find (d := 0) hI) (fun w1 r G1 h => ⟨by rw [h.1]; exact Agr.rf _, by rw [h.1]; exact h.2⟩) (cont 0 (by decide))
set_option maxRecDepth 10000 in
theorem law_c43 {p : Program} {l : Launch} {e : Env} {s : State} {m : MethodId} {below : List Frame} {meth : Method} {c : Code} {b L : Nat} {xs : Nat → Int32} {H : Heap} {locs : List Loc} {Q : State → Prop} {w : Wo} {G : PH} {i j : Nat} {ls : Array Slot} (C0 : lw_At p s m meth c b L xs) (hL : L ≤ 384) (hi : i + 6 ≤ L) (hij : i = 6 * j) (hw : LwI w s) (hWd : Wd w G H) (hG : okG w.1.2 G) (hI : Inv w.1.2 G G) (hS : va_S (Ab w) s.heap H locs) (hl : lv_has ls 4 [(3, .int (Int32.ofInt (i : Int))), (2, .ref (w.1.1 12 0)), (1, .ref (w.1.1 11 0)), (0, .ref b)])
    (cont : ∀ K1, K1 ≤ 1 → ∀ (w2 : Wo) (G2 : PH) (H2 : Heap) (locs2 : List Loc), Agr w w2 → w2.2 = w.2 → Wd w2 G2 H2 → okG w2.1.2 G2 → Inv w2.1.2 G2 G2 → va_S (Ab w) s.heap H2 locs2 → W p l e room_1 s m #[Value.ref b] below meth c H2 locs2 (2233 + j + K1) (36355 + 12 * j + 12 * K1) Q (F0 m 2200 ls [])) :
    W p l e room_1 s m #[Value.ref b] below meth c H locs (2233 + j) (36355 + 12 * j) Q (F0 m 1821 ls []) := by
  exact law_op (K1 := 0) (js := [1]) (pc := 1821) (i1 := 191) (i2 := 194) C0 hw hWd hG hS hl hL (by omega) (by decide +kernel) ok_M_X11_found wd_s11_found wd_mLaw_191 ok_M_X12_found wd_s12_found wd_mLaw_194 ⟨by decide, by decide⟩ ⟨by decide, by decide⟩ ⟨by omega, by omega⟩ (call_found (d := 0) hI) (fun w1 r G1 h => ⟨by rw [h.1]; exact Agr.rf _, by rw [h.1]; exact h.2⟩) (cont 0 (by decide))
set_option maxRecDepth 10000 in
theorem law_c44 {p : Program} {l : Launch} {e : Env} {s : State} {m : MethodId} {below : List Frame} {meth : Method} {c : Code} {b L : Nat} {xs : Nat → Int32} {H : Heap} {locs : List Loc} {Q : State → Prop} {w : Wo} {G : PH} {i j : Nat} {ls : Array Slot} (C0 : lw_At p s m meth c b L xs) (hL : L ≤ 384) (hi : i + 6 ≤ L) (hij : i = 6 * j) (hw : LwI w s) (hWd : Wd w G H) (hG : okG w.1.2 G) (hI : Inv w.1.2 G G) (hS : va_S (Ab w) s.heap H locs) (hl : lv_has ls 4 [(3, .int (Int32.ofInt (i : Int))), (2, .ref (w.1.1 12 0)), (1, .ref (w.1.1 11 0)), (0, .ref b)])
    (cont : ∀ K1, K1 ≤ 1 → ∀ (w2 : Wo) (G2 : PH) (H2 : Heap) (locs2 : List Loc), Agr w w2 → w2.2 = w.2 → Wd w2 G2 H2 → okG w2.1.2 G2 → Inv w2.1.2 G2 G2 → va_S (Ab w) s.heap H2 locs2 → W p l e room_1 s m #[Value.ref b] below meth c H2 locs2 (2233 + j + K1) (36355 + 12 * j + 12 * K1) Q (F0 m 2200 ls [])) :
    W p l e room_1 s m #[Value.ref b] below meth c H locs (2233 + j) (36355 + 12 * j) Q (F0 m 1844 ls []) := by
  exact law_op (K1 := 0) (js := [1, 2]) (pc := 1844) (i1 := 195) (i2 := 198) C0 hw hWd hG hS hl hL (by omega) (by decide +kernel) ok_M_X11_round wd_s11_round wd_mLaw_195 ok_M_X12_round wd_s12_round wd_mLaw_198 ⟨by decide, by decide⟩ ⟨by decide, by decide⟩ ⟨by omega, by omega⟩ (call_round (d := 0) hI) (fun w1 r G1 h => ⟨by rw [h.1]; exact Agr.rf _, by rw [h.1]; exact h.2⟩) (cont 0 (by decide))
set_option maxRecDepth 10000 in
theorem law_c45 {p : Program} {l : Launch} {e : Env} {s : State} {m : MethodId} {below : List Frame} {meth : Method} {c : Code} {b L : Nat} {xs : Nat → Int32} {H : Heap} {locs : List Loc} {Q : State → Prop} {w : Wo} {G : PH} {i j : Nat} {ls : Array Slot} (C0 : lw_At p s m meth c b L xs) (hL : L ≤ 384) (hi : i + 6 ≤ L) (hij : i = 6 * j) (hw : LwI w s) (hWd : Wd w G H) (hG : okG w.1.2 G) (hI : Inv w.1.2 G G) (hS : va_S (Ab w) s.heap H locs) (hl : lv_has ls 4 [(3, .int (Int32.ofInt (i : Int))), (2, .ref (w.1.1 12 0)), (1, .ref (w.1.1 11 0)), (0, .ref b)])
    (cont : ∀ K1, K1 ≤ 1 → ∀ (w2 : Wo) (G2 : PH) (H2 : Heap) (locs2 : List Loc), Agr w w2 → w2.2 = w.2 → Wd w2 G2 H2 → okG w2.1.2 G2 → Inv w2.1.2 G2 G2 → va_S (Ab w) s.heap H2 locs2 → W p l e room_1 s m #[Value.ref b] below meth c H2 locs2 (2233 + j + K1) (36355 + 12 * j + 12 * K1) Q (F0 m 2200 ls [])) :
    W p l e room_1 s m #[Value.ref b] below meth c H locs (2233 + j) (36355 + 12 * j) Q (F0 m 1877 ls []) := by
  exact law_op (K1 := 0) (js := [1]) (pc := 1877) (i1 := 199) (i2 := 202) C0 hw hWd hG hS hl hL (by omega) (by decide +kernel) ok_M_X11_aim wd_s11_aim wd_mLaw_199 ok_M_X12_aim wd_s12_aim wd_mLaw_202 ⟨by decide, by decide⟩ ⟨by decide, by decide⟩ ⟨by omega, by omega⟩ (call_aim (d := 0) hI) (fun w1 r G1 h => ⟨by rw [h.1]; exact Agr.rf _, by rw [h.1]; exact h.2⟩) (cont 0 (by decide))
set_option maxRecDepth 10000 in
theorem law_c46 {p : Program} {l : Launch} {e : Env} {s : State} {m : MethodId} {below : List Frame} {meth : Method} {c : Code} {b L : Nat} {xs : Nat → Int32} {H : Heap} {locs : List Loc} {Q : State → Prop} {w : Wo} {G : PH} {i j : Nat} {ls : Array Slot} (C0 : lw_At p s m meth c b L xs) (hL : L ≤ 384) (hi : i + 6 ≤ L) (hij : i = 6 * j) (hw : LwI w s) (hWd : Wd w G H) (hG : okG w.1.2 G) (hI : Inv w.1.2 G G) (hS : va_S (Ab w) s.heap H locs) (hl : lv_has ls 4 [(3, .int (Int32.ofInt (i : Int))), (2, .ref (w.1.1 12 0)), (1, .ref (w.1.1 11 0)), (0, .ref b)])
    (cont : ∀ K1, K1 ≤ 1 → ∀ (w2 : Wo) (G2 : PH) (H2 : Heap) (locs2 : List Loc), Agr w w2 → w2.2 = w.2 → Wd w2 G2 H2 → okG w2.1.2 G2 → Inv w2.1.2 G2 G2 → va_S (Ab w) s.heap H2 locs2 → W p l e room_1 s m #[Value.ref b] below meth c H2 locs2 (2233 + j + K1) (36355 + 12 * j + 12 * K1) Q (F0 m 2200 ls [])) :
    W p l e room_1 s m #[Value.ref b] below meth c H locs (2233 + j) (36355 + 12 * j) Q (F0 m 1900 ls []) := by
  exact law_op (K1 := 0) (js := []) (pc := 1900) (i1 := 203) (i2 := 206) C0 hw hWd hG hS hl hL (by omega) (by decide +kernel) ok_M_X11_order wd_s11_order wd_mLaw_203 ok_M_X12_order wd_s12_order wd_mLaw_206 ⟨by decide, by decide⟩ ⟨by decide, by decide⟩ ⟨by omega, by omega⟩ (call_order (d := 0) hI) (fun w1 r G1 h => ⟨by rw [h.1]; exact Agr.rf _, by rw [h.1]; exact h.2⟩) (cont 0 (by decide))
set_option maxRecDepth 10000 in
theorem law_c47 {p : Program} {l : Launch} {e : Env} {s : State} {m : MethodId} {below : List Frame} {meth : Method} {c : Code} {b L : Nat} {xs : Nat → Int32} {H : Heap} {locs : List Loc} {Q : State → Prop} {w : Wo} {G : PH} {i j : Nat} {ls : Array Slot} (C0 : lw_At p s m meth c b L xs) (hL : L ≤ 384) (hi : i + 6 ≤ L) (hij : i = 6 * j) (hw : LwI w s) (hWd : Wd w G H) (hG : okG w.1.2 G) (hI : Inv w.1.2 G G) (hS : va_S (Ab w) s.heap H locs) (hl : lv_has ls 4 [(3, .int (Int32.ofInt (i : Int))), (2, .ref (w.1.1 12 0)), (1, .ref (w.1.1 11 0)), (0, .ref b)])
    (cont : ∀ K1, K1 ≤ 1 → ∀ (w2 : Wo) (G2 : PH) (H2 : Heap) (locs2 : List Loc), Agr w w2 → w2.2 = w.2 → Wd w2 G2 H2 → okG w2.1.2 G2 → Inv w2.1.2 G2 G2 → va_S (Ab w) s.heap H2 locs2 → W p l e room_1 s m #[Value.ref b] below meth c H2 locs2 (2233 + j + K1) (36355 + 12 * j + 12 * K1) Q (F0 m 2200 ls [])) :
    W p l e room_1 s m #[Value.ref b] below meth c H locs (2233 + j) (36355 + 12 * j) Q (F0 m 1913 ls []) := by
  exact law_op (K1 := 0) (js := [1]) (pc := 1913) (i1 := 207) (i2 := 210) C0 hw hWd hG hS hl hL (by omega) (by decide +kernel) ok_M_X11_ordered wd_s11_ordered wd_mLaw_207 ok_M_X12_ordered wd_s12_ordered wd_mLaw_210 ⟨by decide, by decide⟩ ⟨by decide, by decide⟩ ⟨by omega, by omega⟩ (call_ordered (d := 0) hI) (fun w1 r G1 h => ⟨by rw [h.1]; exact Agr.rf _, by rw [h.1]; exact h.2⟩) (cont 0 (by decide))
set_option maxRecDepth 10000 in
theorem law_c48 {p : Program} {l : Launch} {e : Env} {s : State} {m : MethodId} {below : List Frame} {meth : Method} {c : Code} {b L : Nat} {xs : Nat → Int32} {H : Heap} {locs : List Loc} {Q : State → Prop} {w : Wo} {G : PH} {i j : Nat} {ls : Array Slot} (C0 : lw_At p s m meth c b L xs) (hL : L ≤ 384) (hi : i + 6 ≤ L) (hij : i = 6 * j) (hw : LwI w s) (hWd : Wd w G H) (hG : okG w.1.2 G) (hI : Inv w.1.2 G G) (hS : va_S (Ab w) s.heap H locs) (hl : lv_has ls 4 [(3, .int (Int32.ofInt (i : Int))), (2, .ref (w.1.1 12 0)), (1, .ref (w.1.1 11 0)), (0, .ref b)])
    (cont : ∀ K1, K1 ≤ 1 → ∀ (w2 : Wo) (G2 : PH) (H2 : Heap) (locs2 : List Loc), Agr w w2 → w2.2 = w.2 → Wd w2 G2 H2 → okG w2.1.2 G2 → Inv w2.1.2 G2 G2 → va_S (Ab w) s.heap H2 locs2 → W p l e room_1 s m #[Value.ref b] below meth c H2 locs2 (2233 + j + K1) (36355 + 12 * j + 12 * K1) Q (F0 m 2200 ls [])) :
    W p l e room_1 s m #[Value.ref b] below meth c H locs (2233 + j) (36355 + 12 * j) Q (F0 m 1936 ls []) := by
  exact law_op (K1 := 0) (js := [1, 2, 3]) (pc := 1936) (i1 := 211) (i2 := 214) C0 hw hWd hG hS hl hL (by omega) (by decide +kernel) ok_M_X11_act wd_s11_act wd_mLaw_211 ok_M_X12_act wd_s12_act wd_mLaw_214 ⟨by decide, by decide⟩ ⟨by decide, by decide⟩ ⟨by omega, by omega⟩ (call_act (d := 0) hI) (fun w1 r G1 h => ⟨by rw [h.1]; exact Agr.rf _, by rw [h.1]; exact h.2⟩) (cont 0 (by decide))
set_option maxRecDepth 10000 in
theorem law_c49 {p : Program} {l : Launch} {e : Env} {s : State} {m : MethodId} {below : List Frame} {meth : Method} {c : Code} {b L : Nat} {xs : Nat → Int32} {H : Heap} {locs : List Loc} {Q : State → Prop} {w : Wo} {G : PH} {i j : Nat} {ls : Array Slot} (C0 : lw_At p s m meth c b L xs) (hL : L ≤ 384) (hi : i + 6 ≤ L) (hij : i = 6 * j) (hw : LwI w s) (hWd : Wd w G H) (hG : okG w.1.2 G) (hI : Inv w.1.2 G G) (hS : va_S (Ab w) s.heap H locs) (hl : lv_has ls 4 [(3, .int (Int32.ofInt (i : Int))), (2, .ref (w.1.1 12 0)), (1, .ref (w.1.1 11 0)), (0, .ref b)])
    (cont : ∀ K1, K1 ≤ 1 → ∀ (w2 : Wo) (G2 : PH) (H2 : Heap) (locs2 : List Loc), Agr w w2 → w2.2 = w.2 → Wd w2 G2 H2 → okG w2.1.2 G2 → Inv w2.1.2 G2 G2 → va_S (Ab w) s.heap H2 locs2 → W p l e room_1 s m #[Value.ref b] below meth c H2 locs2 (2233 + j + K1) (36355 + 12 * j + 12 * K1) Q (F0 m 2200 ls [])) :
    W p l e room_1 s m #[Value.ref b] below meth c H locs (2233 + j) (36355 + 12 * j) Q (F0 m 1979 ls []) := by
  exact law_op (K1 := 0) (js := [1]) (pc := 1979) (i1 := 215) (i2 := 218) C0 hw hWd hG hS hl hL (by omega) (by decide +kernel) ok_M_X11_trace wd_s11_trace wd_mLaw_215 ok_M_X12_trace wd_s12_trace wd_mLaw_218 ⟨by decide, by decide⟩ ⟨by decide, by decide⟩ ⟨by omega, by omega⟩ (call_trace (d := 0) hI) (fun w1 r G1 h => ⟨by rw [h.1]; exact Agr.rf _, by rw [h.1]; exact h.2⟩) (cont 0 (by decide))
set_option maxRecDepth 10000 in
theorem law_c50 {p : Program} {l : Launch} {e : Env} {s : State} {m : MethodId} {below : List Frame} {meth : Method} {c : Code} {b L : Nat} {xs : Nat → Int32} {H : Heap} {locs : List Loc} {Q : State → Prop} {w : Wo} {G : PH} {i j : Nat} {ls : Array Slot} (C0 : lw_At p s m meth c b L xs) (hL : L ≤ 384) (hi : i + 6 ≤ L) (hij : i = 6 * j) (hw : LwI w s) (hWd : Wd w G H) (hG : okG w.1.2 G) (hI : Inv w.1.2 G G) (hS : va_S (Ab w) s.heap H locs) (hl : lv_has ls 4 [(3, .int (Int32.ofInt (i : Int))), (2, .ref (w.1.1 12 0)), (1, .ref (w.1.1 11 0)), (0, .ref b)])
    (cont : ∀ K1, K1 ≤ 1 → ∀ (w2 : Wo) (G2 : PH) (H2 : Heap) (locs2 : List Loc), Agr w w2 → w2.2 = w.2 → Wd w2 G2 H2 → okG w2.1.2 G2 → Inv w2.1.2 G2 G2 → va_S (Ab w) s.heap H2 locs2 → W p l e room_1 s m #[Value.ref b] below meth c H2 locs2 (2233 + j + K1) (36355 + 12 * j + 12 * K1) Q (F0 m 2200 ls [])) :
    W p l e room_1 s m #[Value.ref b] below meth c H locs (2233 + j) (36355 + 12 * j) Q (F0 m 2002 ls []) := by
  exact law_op (K1 := 0) (js := [1, 2]) (pc := 2002) (i1 := 219) (i2 := 222) C0 hw hWd hG hS hl hL (by omega) (by decide +kernel) ok_M_X11_taken wd_s11_taken wd_mLaw_219 ok_M_X12_taken wd_s12_taken wd_mLaw_222 ⟨by decide, by decide⟩ ⟨by decide, by decide⟩ ⟨by omega, by omega⟩ (call_taken (d := 0) hI) (fun w1 r G1 h => ⟨by rw [h.1]; exact Agr.rf _, by rw [h.1]; exact h.2⟩) (cont 0 (by decide))
set_option maxRecDepth 10000 in
theorem law_c51 {p : Program} {l : Launch} {e : Env} {s : State} {m : MethodId} {below : List Frame} {meth : Method} {c : Code} {b L : Nat} {xs : Nat → Int32} {H : Heap} {locs : List Loc} {Q : State → Prop} {w : Wo} {G : PH} {i j : Nat} {ls : Array Slot} (C0 : lw_At p s m meth c b L xs) (hL : L ≤ 384) (hi : i + 6 ≤ L) (hij : i = 6 * j) (hw : LwI w s) (hWd : Wd w G H) (hG : okG w.1.2 G) (hI : Inv w.1.2 G G) (hS : va_S (Ab w) s.heap H locs) (hl : lv_has ls 4 [(3, .int (Int32.ofInt (i : Int))), (2, .ref (w.1.1 12 0)), (1, .ref (w.1.1 11 0)), (0, .ref b)])
    (cont : ∀ K1, K1 ≤ 1 → ∀ (w2 : Wo) (G2 : PH) (H2 : Heap) (locs2 : List Loc), Agr w w2 → w2.2 = w.2 → Wd w2 G2 H2 → okG w2.1.2 G2 → Inv w2.1.2 G2 G2 → va_S (Ab w) s.heap H2 locs2 → W p l e room_1 s m #[Value.ref b] below meth c H2 locs2 (2233 + j + K1) (36355 + 12 * j + 12 * K1) Q (F0 m 2200 ls [])) :
    W p l e room_1 s m #[Value.ref b] below meth c H locs (2233 + j) (36355 + 12 * j) Q (F0 m 2035 ls []) := by
  exact law_op (K1 := 0) (js := [1, 2, 3]) (pc := 2035) (i1 := 223) (i2 := 226) C0 hw hWd hG hS hl hL (by omega) (by decide +kernel) ok_M_X11_table wd_s11_table wd_mLaw_223 ok_M_X12_table wd_s12_table wd_mLaw_226 ⟨by decide, by decide⟩ ⟨by decide, by decide⟩ ⟨by omega, by omega⟩ (call_table (d := 0) hI) (fun w1 r G1 h => ⟨by rw [h.1]; exact Agr.rf _, by rw [h.1]; exact h.2⟩) (cont 0 (by decide))
set_option maxRecDepth 10000 in
theorem law_c52 {p : Program} {l : Launch} {e : Env} {s : State} {m : MethodId} {below : List Frame} {meth : Method} {c : Code} {b L : Nat} {xs : Nat → Int32} {H : Heap} {locs : List Loc} {Q : State → Prop} {w : Wo} {G : PH} {i j : Nat} {ls : Array Slot} (C0 : lw_At p s m meth c b L xs) (hL : L ≤ 384) (hi : i + 6 ≤ L) (hij : i = 6 * j) (hw : LwI w s) (hWd : Wd w G H) (hG : okG w.1.2 G) (hI : Inv w.1.2 G G) (hS : va_S (Ab w) s.heap H locs) (hl : lv_has ls 4 [(3, .int (Int32.ofInt (i : Int))), (2, .ref (w.1.1 12 0)), (1, .ref (w.1.1 11 0)), (0, .ref b)])
    (cont : ∀ K1, K1 ≤ 1 → ∀ (w2 : Wo) (G2 : PH) (H2 : Heap) (locs2 : List Loc), Agr w w2 → w2.2 = w.2 → Wd w2 G2 H2 → okG w2.1.2 G2 → Inv w2.1.2 G2 G2 → va_S (Ab w) s.heap H2 locs2 → W p l e room_1 s m #[Value.ref b] below meth c H2 locs2 (2233 + j + K1) (36355 + 12 * j + 12 * K1) Q (F0 m 2200 ls [])) :
    W p l e room_1 s m #[Value.ref b] below meth c H locs (2233 + j) (36355 + 12 * j) Q (F0 m 2078 ls []) := by
  exact law_op (K1 := 0) (js := [1, 2, 3]) (pc := 2078) (i1 := 227) (i2 := 230) C0 hw hWd hG hS hl hL (by omega) (by decide +kernel) ok_M_X11_item wd_s11_item wd_mLaw_227 ok_M_X12_item wd_s12_item wd_mLaw_230 ⟨by decide, by decide⟩ ⟨by decide, by decide⟩ ⟨by omega, by omega⟩ (call_item (d := 0) hI) (fun w1 r G1 h => ⟨by rw [h.1]; exact Agr.rf _, by rw [h.1]; exact h.2⟩) (cont 0 (by decide))
set_option maxRecDepth 10000 in
theorem law_c53 {p : Program} {l : Launch} {e : Env} {s : State} {m : MethodId} {below : List Frame} {meth : Method} {c : Code} {b L : Nat} {xs : Nat → Int32} {H : Heap} {locs : List Loc} {Q : State → Prop} {w : Wo} {G : PH} {i j : Nat} {ls : Array Slot} (C0 : lw_At p s m meth c b L xs) (hL : L ≤ 384) (hi : i + 6 ≤ L) (hij : i = 6 * j) (hw : LwI w s) (hWd : Wd w G H) (hG : okG w.1.2 G) (hI : Inv w.1.2 G G) (hS : va_S (Ab w) s.heap H locs) (hl : lv_has ls 4 [(3, .int (Int32.ofInt (i : Int))), (2, .ref (w.1.1 12 0)), (1, .ref (w.1.1 11 0)), (0, .ref b)])
    (cont : ∀ K1, K1 ≤ 1 → ∀ (w2 : Wo) (G2 : PH) (H2 : Heap) (locs2 : List Loc), Agr w w2 → w2.2 = w.2 → Wd w2 G2 H2 → okG w2.1.2 G2 → Inv w2.1.2 G2 G2 → va_S (Ab w) s.heap H2 locs2 → W p l e room_1 s m #[Value.ref b] below meth c H2 locs2 (2233 + j + K1) (36355 + 12 * j + 12 * K1) Q (F0 m 2200 ls [])) :
    W p l e room_1 s m #[Value.ref b] below meth c H locs (2233 + j) (36355 + 12 * j) Q (F0 m 2121 ls []) := by
  exact law_op (K1 := 0) (js := [1, 2]) (pc := 2121) (i1 := 231) (i2 := 234) C0 hw hWd hG hS hl hL (by omega) (by decide +kernel) ok_M_X11_read wd_s11_read wd_mLaw_231 ok_M_X12_read wd_s12_read wd_mLaw_234 ⟨by decide, by decide⟩ ⟨by decide, by decide⟩ ⟨by omega, by omega⟩ (call_read (d := 0) hI) (fun w1 r G1 h => ⟨by rw [h.1]; exact Agr.rf _, by rw [h.1]; exact h.2⟩) (cont 0 (by decide))
set_option maxRecDepth 10000 in
theorem law_c54 {p : Program} {l : Launch} {e : Env} {s : State} {m : MethodId} {below : List Frame} {meth : Method} {c : Code} {b L : Nat} {xs : Nat → Int32} {H : Heap} {locs : List Loc} {Q : State → Prop} {w : Wo} {G : PH} {i j : Nat} {ls : Array Slot} (C0 : lw_At p s m meth c b L xs) (hL : L ≤ 384) (hi : i + 6 ≤ L) (hij : i = 6 * j) (hw : LwI w s) (hWd : Wd w G H) (hG : okG w.1.2 G) (hI : Inv w.1.2 G G) (hS : va_S (Ab w) s.heap H locs) (hl : lv_has ls 4 [(3, .int (Int32.ofInt (i : Int))), (2, .ref (w.1.1 12 0)), (1, .ref (w.1.1 11 0)), (0, .ref b)])
    (cont : ∀ K1, K1 ≤ 1 → ∀ (w2 : Wo) (G2 : PH) (H2 : Heap) (locs2 : List Loc), Agr w w2 → w2.2 = w.2 → Wd w2 G2 H2 → okG w2.1.2 G2 → Inv w2.1.2 G2 G2 → va_S (Ab w) s.heap H2 locs2 → W p l e room_1 s m #[Value.ref b] below meth c H2 locs2 (2233 + j + K1) (36355 + 12 * j + 12 * K1) Q (F0 m 2200 ls [])) :
    W p l e room_1 s m #[Value.ref b] below meth c H locs (2233 + j) (36355 + 12 * j) Q (F0 m 2154 ls []) := by
  exact law_op (K1 := 0) (js := [1]) (pc := 2154) (i1 := 235) (i2 := 238) C0 hw hWd hG hS hl hL (by omega) (by decide +kernel) ok_M_X11_blank wd_s11_blank wd_mLaw_235 ok_M_X12_blank wd_s12_blank wd_mLaw_238 ⟨by decide, by decide⟩ ⟨by decide, by decide⟩ ⟨by omega, by omega⟩ (call_blank (d := 0) hI) (fun w1 r G1 h => ⟨by rw [h.1]; exact Agr.rf _, by rw [h.1]; exact h.2⟩) (cont 0 (by decide))
set_option maxRecDepth 10000 in
theorem law_c55 {p : Program} {l : Launch} {e : Env} {s : State} {m : MethodId} {below : List Frame} {meth : Method} {c : Code} {b L : Nat} {xs : Nat → Int32} {H : Heap} {locs : List Loc} {Q : State → Prop} {w : Wo} {G : PH} {i j : Nat} {ls : Array Slot} (C0 : lw_At p s m meth c b L xs) (hL : L ≤ 384) (hi : i + 6 ≤ L) (hij : i = 6 * j) (hw : LwI w s) (hWd : Wd w G H) (hG : okG w.1.2 G) (hI : Inv w.1.2 G G) (hS : va_S (Ab w) s.heap H locs) (hl : lv_has ls 4 [(3, .int (Int32.ofInt (i : Int))), (2, .ref (w.1.1 12 0)), (1, .ref (w.1.1 11 0)), (0, .ref b)])
    (cont : ∀ K1, K1 ≤ 1 → ∀ (w2 : Wo) (G2 : PH) (H2 : Heap) (locs2 : List Loc), Agr w w2 → w2.2 = w.2 → Wd w2 G2 H2 → okG w2.1.2 G2 → Inv w2.1.2 G2 G2 → va_S (Ab w) s.heap H2 locs2 → W p l e room_1 s m #[Value.ref b] below meth c H2 locs2 (2233 + j + K1) (36355 + 12 * j + 12 * K1) Q (F0 m 2200 ls [])) :
    W p l e room_1 s m #[Value.ref b] below meth c H locs (2233 + j) (36355 + 12 * j) Q (F0 m 2177 ls []) := by
  exact law_op (K1 := 0) (js := [1]) (pc := 2177) (i1 := 239) (i2 := 242) C0 hw hWd hG hS hl hL (by omega) (by decide +kernel) ok_M_X11_count wd_s11_count wd_mLaw_239 ok_M_X12_count wd_s12_count wd_mLaw_242 ⟨by decide, by decide⟩ ⟨by decide, by decide⟩ ⟨by omega, by omega⟩ (call_count (d := 0) hI) (fun w1 r G1 h => ⟨by rw [h.1]; exact Agr.rf _, by rw [h.1]; exact h.2⟩) (cont 0 (by decide))
set_option maxRecDepth 10000 in
theorem law_loop {p : Program} {l : Launch} {e : Env} {s : State} {m : MethodId} {below : List Frame} {meth : Method} {c : Code} {b L : Nat} {xs : Nat → Int32} (C0 : lw_At p s m meth c b L xs) (hL : L ≤ 384) : ∀ (nF j i : Nat) (w : Wo) (G : PH) (H : Heap) (locs : List Loc) (ls : Array Slot), i = 6 * j → i ≤ L → L - i < nF → LwI w s → Wd w G H → okG w.1.2 G → Inv w.1.2 G G → va_S (Ab w) s.heap H locs → lv_has ls 4 [(3, .int (Int32.ofInt (i : Int))), (2, .ref (w.1.1 12 0)), (1, .ref (w.1.1 11 0)), (0, .ref b)] →
    W p l e room_1 s m #[Value.ref b] below meth c H locs (2233 + j) (36355 + 12 * j) (lw_Z below #[Value.ref b] s) (F0 m 18 ls []) := by
  intro nF
  induction nF with
  | zero => intro j i w G H locs ls _ _ h; exact absurd h (Nat.not_lt_zero _)
  | succ nF ih =>
    intro j i w G H locs ls hij hiL hM hw hWd hG hI hS hl
    obtain ⟨hx, hb, hr, hml, hown, hts, hX, hbl, hlocks, hgv⟩ := id C0
    have hbA : ¬ Ab w b := fun h => by
      have h : w.2.2.2 ≤ b := h
      have := hw.2.2
      omega
    refine lv_iload_n hx hb dl_18 rfl (lv_at hl 0 rfl) (lv_aload_n hx hb dl_19 rfl (lv_at hl 3 rfl) (va_slen hx hb hX hbl hbA hS dl_20 ?_))
    rw [of_nI (by omega)]
    refine lv_bipush (v := Int32.ofInt 6) hx hb dl_21 (by decide) (lv_isub hx hb dl_23 ?_)
    rw [← Int32.ofInt_sub]
    refine lv_icmp_gt hx hb dl_24 (tgt := 2206) rfl (fun q => ?_) (fun q => ?_)
    · refine lv_iconst (v := 1) hx hb dl_2206 (by decide) ?_
      refine va_forget (fun x hx' => ?_) (W.widen (k := 600000) (n := 7302250) (by omega) (by omega) (lw_ret hx hb hr hlocks dl_2207))
      have h1 : w.2.2.2 ≤ x.base := hS.2.2 x hx'
      rw [← hw.2.2]
      exact h1
    · have hi : i + 6 ≤ L := by
        have q2 := mt (of_lt (a := (L : Int) - 6) (b := (i : Int)) ⟨by omega, by omega⟩ ⟨by omega, by omega⟩).mpr q
        omega
      obtain ⟨g1, g2⟩ := of_in (i := (i : Int)) (n := L) (by omega) (by omega) (by omega)
      refine lv_aload_n hx hb dl_27 rfl (lv_at hl 3 rfl) (lv_iload_n hx hb dl_28 rfl (lv_at hl 0 rfl) (va_sld hx hb hX hbl hbA hS g1 dl_29 ?_))
      rw [g2, show ((i : Int)).toNat = i by omega]
      refine lv_bipush (v := Int32.ofInt 63) hx hb dl_30 (by decide) (lv_iand hx hb dl_32 ?_)
      have hy : (xs i &&& Int32.ofInt 63).toInt = (xs i).toInt % 64 := by
        have h := pAnd_63 (xs i).toInt
        unfold pAnd at h
        rw [Int32.ofInt_toInt] at h
        exact h
      generalize (xs i &&& Int32.ofInt 63) = y at hy ⊢
      have cont : ∀ K1, K1 ≤ 1 → ∀ (w2 : Wo) (G2 : PH) (H2 : Heap) (locs2 : List Loc), Agr w w2 → w2.2 = w.2 → Wd w2 G2 H2 → okG w2.1.2 G2 → Inv w2.1.2 G2 G2 → va_S (Ab w) s.heap H2 locs2 → W p l e room_1 s m #[Value.ref b] below meth c H2 locs2 (2233 + j + K1) (36355 + 12 * j + 12 * K1) (lw_Z below #[Value.ref b] s) (F0 m 2200 ls []) := by
        intro K1 hK w2 G2 H2 locs2 hA h2 hWd2 hG2 hI2 hS2
        refine lv_iinc (k := 0) (v := Int32.ofInt ((i + 6 : Nat) : Int)) (lv' := [(3, .int (Int32.ofInt ((i + 6 : Nat) : Int))), (2, .ref (w.1.1 12 0)), (1, .ref (w.1.1 11 0)), (0, .ref b)]) hx hb dl_2200 hl rfl (by rw [← Int32.ofInt_add]; exact congrArg Int32.ofInt (by omega)) (by decide) rfl (fun ls' hl' => ?_)
        refine lv_goto hx hb dl_2203 (tgt := 18) rfl ?_
        refine W.widen (k := 2233 + (j + 1)) (n := 36355 + 12 * (j + 1)) (by omega) (by omega) ?_
        exact ih (j + 1) (i + 6) w2 G2 H2 locs2 ls' (by omega) (by omega) (by omega) (hw.ext h2 hA) hWd2 hG2 hI2 (by rw [show Ab w2 = Ab w by unfold Ab; rw [h2]]; exact hS2) (by rw [hA.2 12 0 (lv_12 _), hA.2 11 0 (lv_11 _)]; exact hl')
      by_cases h55 : 55 < y.toInt
      · exact lv_tableOut hx hb dl_33 (Or.inr h55) (tgt := 2200) rfl (cont 0 (by decide) w G H locs (Agr.rf w) rfl hWd hG hI hS)
      · obtain ⟨v, hv, hv2⟩ : ∃ v : Nat, y.toInt = (v : Int) ∧ v < 56 := ⟨y.toInt.toNat, by omega, by omega⟩
        have key : ∀ (off : Int) (tgt : Nat), (#[239, 262, 295, 338, 371, 404, 467, 500, 533, 566, 599, 642, 685, 698, 751, 794, 827, 860, 893, 926, 969, 1032, 1075, 1118, 1171, 1224, 1267, 1310, 1333, 1356, 1409, 1432, 1455, 1488, 1501, 1524, 1567, 1610, 1643, 1676, 1699, 1722, 1765, 1788, 1811, 1844, 1867, 1880, 1903, 1946, 1969, 2002, 2045, 2088, 2121, 2144] : Array Int)[v]? = some off → ((33 : Nat) : Int) + off = (tgt : Int) → W p l e room_1 s m #[Value.ref b] below meth c H locs (2233 + j) (36355 + 12 * j) (lw_Z below #[Value.ref b] s) (F0 m tgt ls []) → W p l e room_1 s m #[Value.ref b] below meth c H locs (2233 + j) (36355 + 12 * j) (lw_Z below #[Value.ref b] s) (F0 m 33 ls [.int y]) := fun off tgt ho ht k => lv_tableIn hx hb dl_33 (by omega) (by omega) (by rw [hv, show ((v : Int) - 0).toNat = v by omega]; exact ho) ht k
        clear hy hv
        match v, hv2 with
        | 0, _ => exact key 239 272 rfl rfl (law_c0 C0 hL hi hij hw hWd hG hI hS hl cont)
        | 1, _ => exact key 262 295 rfl rfl (law_c1 C0 hL hi hij hw hWd hG hI hS hl cont)
        | 2, _ => exact key 295 328 rfl rfl (law_c2 C0 hL hi hij hw hWd hG hI hS hl cont)
        | 3, _ => exact key 338 371 rfl rfl (law_c3 C0 hL hi hij hw hWd hG hI hS hl cont)
        | 4, _ => exact key 371 404 rfl rfl (law_c4 C0 hL hi hij hw hWd hG hI hS hl cont)
        | 5, _ => exact key 404 437 rfl rfl (law_c5 C0 hL hi hij hw hWd hG hI hS hl cont)
        | 6, _ => exact key 467 500 rfl rfl (law_c6 C0 hL hi hij hw hWd hG hI hS hl cont)
        | 7, _ => exact key 500 533 rfl rfl (law_c7 C0 hL hi hij hw hWd hG hI hS hl cont)
        | 8, _ => exact key 533 566 rfl rfl (law_c8 C0 hL hi hij hw hWd hG hI hS hl cont)
        | 9, _ => exact key 566 599 rfl rfl (law_c9 C0 hL hi hij hw hWd hG hI hS hl cont)
        | 10, _ => exact key 599 632 rfl rfl (law_c10 C0 hL hi hij hw hWd hG hI hS hl cont)
        | 11, _ => exact key 642 675 rfl rfl (law_c11 C0 hL hi hij hw hWd hG hI hS hl cont)
        | 12, _ => exact key 685 718 rfl rfl (law_c12 C0 hL hi hij hw hWd hG hI hS hl cont)
        | 13, _ => exact key 698 731 rfl rfl (law_c13 C0 hL hi hij hw hWd hG hI hS hl cont)
        | 14, _ => exact key 751 784 rfl rfl (law_c14 C0 hL hi hij hw hWd hG hI hS hl cont)
        | 15, _ => exact key 794 827 rfl rfl (law_c15 C0 hL hi hij hw hWd hG hI hS hl cont)
        | 16, _ => exact key 827 860 rfl rfl (law_c16 C0 hL hi hij hw hWd hG hI hS hl cont)
        | 17, _ => exact key 860 893 rfl rfl (law_c17 C0 hL hi hij hw hWd hG hI hS hl cont)
        | 18, _ => exact key 893 926 rfl rfl (law_c18 C0 hL hi hij hw hWd hG hI hS hl cont)
        | 19, _ => exact key 926 959 rfl rfl (law_c19 C0 hL hi hij hw hWd hG hI hS hl cont)
        | 20, _ => exact key 969 1002 rfl rfl (law_c20 C0 hL hi hij hw hWd hG hI hS hl cont)
        | 21, _ => exact key 1032 1065 rfl rfl (law_c21 C0 hL hi hij hw hWd hG hI hS hl cont)
        | 22, _ => exact key 1075 1108 rfl rfl (law_c22 C0 hL hi hij hw hWd hG hI hS hl cont)
        | 23, _ => exact key 1118 1151 rfl rfl (law_c23 C0 hL hi hij hw hWd hG hI hS hl cont)
        | 24, _ => exact key 1171 1204 rfl rfl (law_c24 C0 hL hi hij hw hWd hG hI hS hl cont)
        | 25, _ => exact key 1224 1257 rfl rfl (law_c25 C0 hL hi hij hw hWd hG hI hS hl cont)
        | 26, _ => exact key 1267 1300 rfl rfl (law_c26 C0 hL hi hij hw hWd hG hI hS hl cont)
        | 27, _ => exact key 1310 1343 rfl rfl (law_c27 C0 hL hi hij hw hWd hG hI hS hl cont)
        | 28, _ => exact key 1333 1366 rfl rfl (law_c28 C0 hL hi hij hw hWd hG hI hS hl cont)
        | 29, _ => exact key 1356 1389 rfl rfl (law_c29 C0 hL hi hij hw hWd hG hI hS hl cont)
        | 30, _ => exact key 1409 1442 rfl rfl (law_c30 C0 hL hi hij hw hWd hG hI hS hl cont)
        | 31, _ => exact key 1432 1465 rfl rfl (law_c31 C0 hL hi hij hw hWd hG hI hS hl cont)
        | 32, _ => exact key 1455 1488 rfl rfl (law_c32 C0 hL hi hij hw hWd hG hI hS hl cont)
        | 33, _ => exact key 1488 1521 rfl rfl (law_c33 C0 hL hi hij hw hWd hG hI hS hl cont)
        | 34, _ => exact key 1501 1534 rfl rfl (law_c34 C0 hL hi hij hw hWd hG hI hS hl cont)
        | 35, _ => exact key 1524 1557 rfl rfl (law_c35 C0 hL hi hij hw hWd hG hI hS hl cont)
        | 36, _ => exact key 1567 1600 rfl rfl (law_c36 C0 hL hi hij hw hWd hG hI hS hl cont)
        | 37, _ => exact key 1610 1643 rfl rfl (law_c37 C0 hL hi hij hw hWd hG hI hS hl cont)
        | 38, _ => exact key 1643 1676 rfl rfl (law_c38 C0 hL hi hij hw hWd hG hI hS hl cont)
        | 39, _ => exact key 1676 1709 rfl rfl (law_c39 C0 hL hi hij hw hWd hG hI hS hl cont)
        | 40, _ => exact key 1699 1732 rfl rfl (law_c40 C0 hL hi hij hw hWd hG hI hS hl cont)
        | 41, _ => exact key 1722 1755 rfl rfl (law_c41 C0 hL hi hij hw hWd hG hI hS hl cont)
        | 42, _ => exact key 1765 1798 rfl rfl (law_c42 C0 hL hi hij hw hWd hG hI hS hl cont)
        | 43, _ => exact key 1788 1821 rfl rfl (law_c43 C0 hL hi hij hw hWd hG hI hS hl cont)
        | 44, _ => exact key 1811 1844 rfl rfl (law_c44 C0 hL hi hij hw hWd hG hI hS hl cont)
        | 45, _ => exact key 1844 1877 rfl rfl (law_c45 C0 hL hi hij hw hWd hG hI hS hl cont)
        | 46, _ => exact key 1867 1900 rfl rfl (law_c46 C0 hL hi hij hw hWd hG hI hS hl cont)
        | 47, _ => exact key 1880 1913 rfl rfl (law_c47 C0 hL hi hij hw hWd hG hI hS hl cont)
        | 48, _ => exact key 1903 1936 rfl rfl (law_c48 C0 hL hi hij hw hWd hG hI hS hl cont)
        | 49, _ => exact key 1946 1979 rfl rfl (law_c49 C0 hL hi hij hw hWd hG hI hS hl cont)
        | 50, _ => exact key 1969 2002 rfl rfl (law_c50 C0 hL hi hij hw hWd hG hI hS hl cont)
        | 51, _ => exact key 2002 2035 rfl rfl (law_c51 C0 hL hi hij hw hWd hG hI hS hl cont)
        | 52, _ => exact key 2045 2078 rfl rfl (law_c52 C0 hL hi hij hw hWd hG hI hS hl cont)
        | 53, _ => exact key 2088 2121 rfl rfl (law_c53 C0 hL hi hij hw hWd hG hI hS hl cont)
        | 54, _ => exact key 2121 2154 rfl rfl (law_c54 C0 hL hi hij hw hWd hG hI hS hl cont)
        | 55, _ => exact key 2144 2177 rfl rfl (law_c55 C0 hL hi hij hw hWd hG hI hS hl cont)
        | n + 56, h => exact absurd h (by omega)

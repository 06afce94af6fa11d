section LINKS
theorem fl_Pr_33 : gi_fl R_Pr 33 1 0 := ⟨R_Pr, F_Pr, 8, rfl, by decide, i_Pr, Or.inl (gi_m1 30 rfl rfl)⟩
theorem fl_Bu_54 : gi_fl R_Bu 54 1 0 := ⟨R_Pr, F_Pr, 8, rfl, by decide, i_Pr, Or.inl (gi_m1 31 rfl rfl)⟩
theorem fl_H_108 : gi_fl R_H 108 1 0 := ⟨R_Pr, F_Pr, 8, rfl, by decide, i_Pr, Or.inl (gi_m1 32 rfl rfl)⟩
theorem fl_Pr_9 : gi_fl R_Pr 9 1 1 := ⟨R_Pr, F_Pr, 8, rfl, by decide, i_Pr, Or.inl (gi_m1 33 rfl rfl)⟩
theorem fF_Pr_9 : gi_fF R_Pr 9 1 1 := ⟨R_Pr, F_Pr, 8, rfl, by decide, i_Pr, (gi_m1 33 rfl rfl)⟩
theorem fl_Pr_15 : gi_fl R_Pr 15 1 2 := ⟨R_Pr, F_Pr, 8, rfl, by decide, i_Pr, Or.inl (gi_m1 34 rfl rfl)⟩
theorem fF_Pr_15 : gi_fF R_Pr 15 1 2 := ⟨R_Pr, F_Pr, 8, rfl, by decide, i_Pr, (gi_m1 34 rfl rfl)⟩
theorem fl_Pr_18 : gi_fl R_Pr 18 1 3 := ⟨R_Pr, F_Pr, 8, rfl, by decide, i_Pr, Or.inl (gi_m1 35 rfl rfl)⟩
theorem fF_Pr_18 : gi_fF R_Pr 18 1 3 := ⟨R_Pr, F_Pr, 8, rfl, by decide, i_Pr, (gi_m1 35 rfl rfl)⟩
theorem fl_Pr_21 : gi_fl R_Pr 21 1 4 := ⟨R_Pr, F_Pr, 8, rfl, by decide, i_Pr, Or.inl (gi_m1 36 rfl rfl)⟩
theorem fF_Pr_21 : gi_fF R_Pr 21 1 4 := ⟨R_Pr, F_Pr, 8, rfl, by decide, i_Pr, (gi_m1 36 rfl rfl)⟩
theorem fl_Pr_24 : gi_fl R_Pr 24 1 5 := ⟨R_Pr, F_Pr, 8, rfl, by decide, i_Pr, Or.inl (gi_m1 37 rfl rfl)⟩
theorem fF_Pr_24 : gi_fF R_Pr 24 1 5 := ⟨R_Pr, F_Pr, 8, rfl, by decide, i_Pr, (gi_m1 37 rfl rfl)⟩
theorem fl_Pr_27 : gi_fl R_Pr 27 1 6 := ⟨R_Pr, F_Pr, 8, rfl, by decide, i_Pr, Or.inl (gi_m1 38 rfl rfl)⟩
theorem fF_Pr_27 : gi_fF R_Pr 27 1 6 := ⟨R_Pr, F_Pr, 8, rfl, by decide, i_Pr, (gi_m1 38 rfl rfl)⟩
theorem fl_Pr_30 : gi_fl R_Pr 30 1 7 := ⟨R_Pr, F_Pr, 8, rfl, by decide, i_Pr, Or.inl (gi_m1 39 rfl rfl)⟩
theorem fF_Pr_30 : gi_fF R_Pr 30 1 7 := ⟨R_Pr, F_Pr, 8, rfl, by decide, i_Pr, (gi_m1 39 rfl rfl)⟩
theorem fl_Bu_69 : gi_fl R_Bu 69 2 0 := ⟨R_Bu, F_Bu, 15, rfl, by decide, i_Bu, Or.inl (gi_m1 64 rfl rfl)⟩
theorem fl_H_105 : gi_fl R_H 105 2 0 := ⟨R_Bu, F_Bu, 15, rfl, by decide, i_Bu, Or.inl (gi_m1 65 rfl rfl)⟩
theorem fl_Bu_48 : gi_fl R_Bu 48 2 1 := ⟨R_Bu, F_Bu, 15, rfl, by decide, i_Bu, Or.inl (gi_m1 66 rfl rfl)⟩
theorem fl_H_157 : gi_fl R_H 157 2 1 := ⟨R_Bu, F_Bu, 15, rfl, by decide, i_Bu, Or.inl (gi_m1 67 rfl rfl)⟩
theorem fl_Bu_38 : gi_fl R_Bu 38 2 2 := ⟨R_Bu, F_Bu, 15, rfl, by decide, i_Bu, Or.inl (gi_m1 68 rfl rfl)⟩
theorem fl_H_96 : gi_fl R_H 96 2 2 := ⟨R_Bu, F_Bu, 15, rfl, by decide, i_Bu, Or.inl (gi_m1 69 rfl rfl)⟩
theorem fl_Bu_42 : gi_fl R_Bu 42 2 3 := ⟨R_Bu, F_Bu, 15, rfl, by decide, i_Bu, Or.inl (gi_m1 70 rfl rfl)⟩
theorem fl_H_99 : gi_fl R_H 99 2 3 := ⟨R_Bu, F_Bu, 15, rfl, by decide, i_Bu, Or.inl (gi_m1 71 rfl rfl)⟩
theorem fl_Bu_45 : gi_fl R_Bu 45 2 4 := ⟨R_Bu, F_Bu, 15, rfl, by decide, i_Bu, Or.inl (gi_m1 72 rfl rfl)⟩
theorem fl_H_102 : gi_fl R_H 102 2 4 := ⟨R_Bu, F_Bu, 15, rfl, by decide, i_Bu, Or.inl (gi_m1 73 rfl rfl)⟩
theorem fl_Bu_34 : gi_fl R_Bu 34 2 5 := ⟨R_Bu, F_Bu, 15, rfl, by decide, i_Bu, Or.inl (gi_m1 74 rfl rfl)⟩
theorem fF_Bu_34 : gi_fF R_Bu 34 2 5 := ⟨R_Bu, F_Bu, 15, rfl, by decide, i_Bu, (gi_m1 74 rfl rfl)⟩
theorem fl_Bu_9 : gi_fl R_Bu 9 2 6 := ⟨R_Bu, F_Bu, 15, rfl, by decide, i_Bu, Or.inl (gi_m1 75 rfl rfl)⟩
theorem fF_Bu_9 : gi_fF R_Bu 9 2 6 := ⟨R_Bu, F_Bu, 15, rfl, by decide, i_Bu, (gi_m1 75 rfl rfl)⟩
theorem fl_Bu_15 : gi_fl R_Bu 15 2 7 := ⟨R_Bu, F_Bu, 15, rfl, by decide, i_Bu, Or.inl (gi_m1 76 rfl rfl)⟩
theorem fF_Bu_15 : gi_fF R_Bu 15 2 7 := ⟨R_Bu, F_Bu, 15, rfl, by decide, i_Bu, (gi_m1 76 rfl rfl)⟩
theorem fl_Bu_18 : gi_fl R_Bu 18 2 8 := ⟨R_Bu, F_Bu, 15, rfl, by decide, i_Bu, Or.inl (gi_m1 77 rfl rfl)⟩
theorem fF_Bu_18 : gi_fF R_Bu 18 2 8 := ⟨R_Bu, F_Bu, 15, rfl, by decide, i_Bu, (gi_m1 77 rfl rfl)⟩
theorem fl_Bu_22 : gi_fl R_Bu 22 2 9 := ⟨R_Bu, F_Bu, 15, rfl, by decide, i_Bu, Or.inl (gi_m1 78 rfl rfl)⟩
theorem fF_Bu_22 : gi_fF R_Bu 22 2 9 := ⟨R_Bu, F_Bu, 15, rfl, by decide, i_Bu, (gi_m1 78 rfl rfl)⟩
theorem fl_Bu_25 : gi_fl R_Bu 25 2 10 := ⟨R_Bu, F_Bu, 15, rfl, by decide, i_Bu, Or.inl (gi_m1 79 rfl rfl)⟩
theorem fF_Bu_25 : gi_fF R_Bu 25 2 10 := ⟨R_Bu, F_Bu, 15, rfl, by decide, i_Bu, (gi_m1 79 rfl rfl)⟩
theorem fl_Bu_28 : gi_fl R_Bu 28 2 11 := ⟨R_Bu, F_Bu, 15, rfl, by decide, i_Bu, Or.inl (gi_m1 80 rfl rfl)⟩
theorem fF_Bu_28 : gi_fF R_Bu 28 2 11 := ⟨R_Bu, F_Bu, 15, rfl, by decide, i_Bu, (gi_m1 80 rfl rfl)⟩
theorem fl_Bu_31 : gi_fl R_Bu 31 2 12 := ⟨R_Bu, F_Bu, 15, rfl, by decide, i_Bu, Or.inl (gi_m1 81 rfl rfl)⟩
theorem fF_Bu_31 : gi_fF R_Bu 31 2 12 := ⟨R_Bu, F_Bu, 15, rfl, by decide, i_Bu, (gi_m1 81 rfl rfl)⟩
theorem fl_Bu_103 : gi_fl R_Bu 103 2 13 := ⟨R_Bu, F_Bu, 15, rfl, by decide, i_Bu, Or.inl (gi_m1 82 rfl rfl)⟩
theorem fl_Bu_106 : gi_fl R_Bu 106 2 14 := ⟨R_Bu, F_Bu, 15, rfl, by decide, i_Bu, Or.inl (gi_m1 83 rfl rfl)⟩
theorem fl_Va_9 : gi_fl R_Va 9 5 0 := ⟨R_Va, F_Va, 6, rfl, by decide, i_Va, Or.inl (gi_m1 136 rfl rfl)⟩
theorem fl_H_197 : gi_fl R_H 197 5 0 := ⟨R_Va, F_Va, 6, rfl, by decide, i_Va, Or.inl (gi_m1 137 rfl rfl)⟩
theorem fl_Ma_258 : gi_fl R_Ma 258 5 0 := ⟨R_Va, F_Va, 6, rfl, by decide, i_Va, Or.inl (gi_m1 138 rfl rfl)⟩
theorem fl_Va_15 : gi_fl R_Va 15 5 1 := ⟨R_Va, F_Va, 6, rfl, by decide, i_Va, Or.inl (gi_m1 139 rfl rfl)⟩
theorem fl_Re_21 : gi_fl R_Re 21 5 1 := ⟨R_Va, F_Va, 6, rfl, by decide, i_Va, Or.inl (gi_m1 140 rfl rfl)⟩
theorem fl_Ju_55 : gi_fl R_Ju 55 5 1 := ⟨R_Va, F_Va, 6, rfl, by decide, i_Va, Or.inl (gi_m1 141 rfl rfl)⟩
theorem fl_St_227 : gi_fl R_St 227 5 1 := ⟨R_Va, F_Va, 6, rfl, by decide, i_Va, Or.inl (gi_m1 142 rfl rfl)⟩
theorem fl_Ro_65 : gi_fl R_Ro 65 5 1 := ⟨R_Va, F_Va, 6, rfl, by decide, i_Va, Or.inl (gi_m1 143 rfl rfl)⟩
theorem fl_Va_19 : gi_fl R_Va 19 5 2 := ⟨R_Va, F_Va, 6, rfl, by decide, i_Va, Or.inl (gi_m1 144 rfl rfl)⟩
theorem fl_Re_25 : gi_fl R_Re 25 5 2 := ⟨R_Va, F_Va, 6, rfl, by decide, i_Va, Or.inl (gi_m1 145 rfl rfl)⟩
theorem fl_Ju_59 : gi_fl R_Ju 59 5 2 := ⟨R_Va, F_Va, 6, rfl, by decide, i_Va, Or.inl (gi_m1 146 rfl rfl)⟩
theorem fl_St_231 : gi_fl R_St 231 5 2 := ⟨R_Va, F_Va, 6, rfl, by decide, i_Va, Or.inl (gi_m1 147 rfl rfl)⟩
theorem fl_Ro_69 : gi_fl R_Ro 69 5 2 := ⟨R_Va, F_Va, 6, rfl, by decide, i_Va, Or.inl (gi_m1 148 rfl rfl)⟩
theorem fl_Va_22 : gi_fl R_Va 22 5 3 := ⟨R_Va, F_Va, 6, rfl, by decide, i_Va, Or.inl (gi_m1 149 rfl rfl)⟩
theorem fl_Re_28 : gi_fl R_Re 28 5 3 := ⟨R_Va, F_Va, 6, rfl, by decide, i_Va, Or.inl (gi_m1 150 rfl rfl)⟩
theorem fl_Va_25 : gi_fl R_Va 25 5 4 := ⟨R_Va, F_Va, 6, rfl, by decide, i_Va, Or.inl (gi_m1 151 rfl rfl)⟩
theorem fl_Ju_65 : gi_fl R_Ju 65 5 4 := ⟨R_Va, F_Va, 6, rfl, by decide, i_Va, Or.inl (gi_m1 152 rfl rfl)⟩
theorem fl_St_249 : gi_fl R_St 249 5 4 := ⟨R_Va, F_Va, 6, rfl, by decide, i_Va, Or.inl (gi_m1 153 rfl rfl)⟩
theorem fl_Ma_264 : gi_fl R_Ma 264 5 4 := ⟨R_Va, F_Va, 6, rfl, by decide, i_Va, Or.inl (gi_m1 154 rfl rfl)⟩
theorem fl_Va_29 : gi_fl R_Va 29 5 5 := ⟨R_Va, F_Va, 6, rfl, by decide, i_Va, Or.inl (gi_m1 155 rfl rfl)⟩
theorem fl_Ju_62 : gi_fl R_Ju 62 5 5 := ⟨R_Va, F_Va, 6, rfl, by decide, i_Va, Or.inl (gi_m1 156 rfl rfl)⟩
theorem fl_St_252 : gi_fl R_St 252 5 5 := ⟨R_Va, F_Va, 6, rfl, by decide, i_Va, Or.inl (gi_m1 157 rfl rfl)⟩
theorem fl_Ma_261 : gi_fl R_Ma 261 5 5 := ⟨R_Va, F_Va, 6, rfl, by decide, i_Va, Or.inl (gi_m1 158 rfl rfl)⟩
theorem fl_Ro_11 : gi_fl R_Ro 11 4 0 := ⟨R_Ro, F_Ro, 5, rfl, by decide, i_Ro, Or.inl (gi_m1 172 rfl rfl)⟩
theorem fF_Ro_11 : gi_fF R_Ro 11 4 0 := ⟨R_Ro, F_Ro, 5, rfl, by decide, i_Ro, (gi_m1 172 rfl rfl)⟩
theorem fl_Ro_17 : gi_fl R_Ro 17 4 1 := ⟨R_Ro, F_Ro, 5, rfl, by decide, i_Ro, Or.inl (gi_m1 173 rfl rfl)⟩
theorem fF_Ro_17 : gi_fF R_Ro 17 4 1 := ⟨R_Ro, F_Ro, 5, rfl, by decide, i_Ro, (gi_m1 173 rfl rfl)⟩
theorem fl_Ju_37 : gi_fl R_Ju 37 4 2 := ⟨R_Ro, F_Ro, 5, rfl, by decide, i_Ro, Or.inl (gi_m1 174 rfl rfl)⟩
theorem fl_St_92 : gi_fl R_St 92 4 2 := ⟨R_Ro, F_Ro, 5, rfl, by decide, i_Ro, Or.inl (gi_m1 175 rfl rfl)⟩
theorem fl_Ro_26 : gi_fl R_Ro 26 4 2 := ⟨R_Ro, F_Ro, 5, rfl, by decide, i_Ro, Or.inl (gi_m1 176 rfl rfl)⟩
theorem fl_H_187 : gi_fl R_H 187 4 2 := ⟨R_Ro, F_Ro, 5, rfl, by decide, i_Ro, Or.inl (gi_m1 177 rfl rfl)⟩
theorem fl_Ma_251 : gi_fl R_Ma 251 4 2 := ⟨R_Ro, F_Ro, 5, rfl, by decide, i_Ro, Or.inl (gi_m1 178 rfl rfl)⟩
theorem fl_Ju_25 : gi_fl R_Ju 25 4 3 := ⟨R_Ro, F_Ro, 5, rfl, by decide, i_Ro, Or.inl (gi_m1 179 rfl rfl)⟩
theorem fl_Fa_35 : gi_fl R_Fa 35 4 3 := ⟨R_Ro, F_Ro, 5, rfl, by decide, i_Ro, Or.inl (gi_m1 180 rfl rfl)⟩
theorem fl_St_81 : gi_fl R_St 81 4 3 := ⟨R_Ro, F_Ro, 5, rfl, by decide, i_Ro, Or.inl (gi_m1 181 rfl rfl)⟩
theorem fl_Ro_30 : gi_fl R_Ro 30 4 3 := ⟨R_Ro, F_Ro, 5, rfl, by decide, i_Ro, Or.inl (gi_m1 182 rfl rfl)⟩
theorem fl_H_134 : gi_fl R_H 134 4 3 := ⟨R_Ro, F_Ro, 5, rfl, by decide, i_Ro, Or.inl (gi_m1 183 rfl rfl)⟩
theorem fl_Ma_232 : gi_fl R_Ma 232 4 3 := ⟨R_Ro, F_Ro, 5, rfl, by decide, i_Ro, Or.inl (gi_m1 184 rfl rfl)⟩
theorem fl_Ro_34 : gi_fl R_Ro 34 4 4 := ⟨R_Ro, F_Ro, 5, rfl, by decide, i_Ro, Or.inl (gi_m1 185 rfl rfl)⟩
theorem fl_Fa_11 : gi_fl R_Fa 11 3 0 := ⟨R_Fa, F_Fa, 5, rfl, by decide, i_Fa, Or.inl (gi_m1 197 rfl rfl)⟩
theorem fF_Fa_11 : gi_fF R_Fa 11 3 0 := ⟨R_Fa, F_Fa, 5, rfl, by decide, i_Fa, (gi_m1 197 rfl rfl)⟩
theorem fl_Fa_17 : gi_fl R_Fa 17 3 1 := ⟨R_Fa, F_Fa, 5, rfl, by decide, i_Fa, Or.inl (gi_m1 198 rfl rfl)⟩
theorem fF_Fa_17 : gi_fF R_Fa 17 3 1 := ⟨R_Fa, F_Fa, 5, rfl, by decide, i_Fa, (gi_m1 198 rfl rfl)⟩
theorem fl_Fa_20 : gi_fl R_Fa 20 3 2 := ⟨R_Fa, F_Fa, 5, rfl, by decide, i_Fa, Or.inl (gi_m1 199 rfl rfl)⟩
theorem fF_Fa_20 : gi_fF R_Fa 20 3 2 := ⟨R_Fa, F_Fa, 5, rfl, by decide, i_Fa, (gi_m1 199 rfl rfl)⟩
theorem fl_Fa_23 : gi_fl R_Fa 23 3 3 := ⟨R_Fa, F_Fa, 5, rfl, by decide, i_Fa, Or.inl (gi_m1 200 rfl rfl)⟩
theorem fF_Fa_23 : gi_fF R_Fa 23 3 3 := ⟨R_Fa, F_Fa, 5, rfl, by decide, i_Fa, (gi_m1 200 rfl rfl)⟩
theorem fl_Fa_26 : gi_fl R_Fa 26 3 4 := ⟨R_Fa, F_Fa, 5, rfl, by decide, i_Fa, Or.inl (gi_m1 201 rfl rfl)⟩
theorem fF_Fa_26 : gi_fF R_Fa 26 3 4 := ⟨R_Fa, F_Fa, 5, rfl, by decide, i_Fa, (gi_m1 201 rfl rfl)⟩
theorem fl_Re_12 : gi_fl R_Re 12 7 0 := ⟨R_Re, F_Re, 2, rfl, by decide, i_Re, Or.inl (gi_m1 227 rfl rfl)⟩
theorem fF_Re_12 : gi_fF R_Re 12 7 0 := ⟨R_Re, F_Re, 2, rfl, by decide, i_Re, (gi_m1 227 rfl rfl)⟩
theorem fl_Re_18 : gi_fl R_Re 18 7 1 := ⟨R_Re, F_Re, 2, rfl, by decide, i_Re, Or.inl (gi_m1 228 rfl rfl)⟩
theorem fF_Re_18 : gi_fF R_Re 18 7 1 := ⟨R_Re, F_Re, 2, rfl, by decide, i_Re, (gi_m1 228 rfl rfl)⟩
theorem fl_St_77 : gi_fl R_St 77 6 0 := ⟨R_St, F_St, 19, rfl, by decide, i_St, Or.inl (gi_m1 238 rfl rfl)⟩
theorem fl_H_119 : gi_fl R_H 119 6 0 := ⟨R_St, F_St, 19, rfl, by decide, i_St, Or.inl (gi_m1 239 rfl rfl)⟩
theorem fl_St_58 : gi_fl R_St 58 6 1 := ⟨R_St, F_St, 19, rfl, by decide, i_St, Or.inl (gi_m2 0 rfl rfl)⟩
theorem fF_St_58 : gi_fF R_St 58 6 1 := ⟨R_St, F_St, 19, rfl, by decide, i_St, (gi_m2 0 rfl rfl)⟩
theorem fl_St_62 : gi_fl R_St 62 6 2 := ⟨R_St, F_St, 19, rfl, by decide, i_St, Or.inl (gi_m2 1 rfl rfl)⟩
theorem fF_St_62 : gi_fF R_St 62 6 2 := ⟨R_St, F_St, 19, rfl, by decide, i_St, (gi_m2 1 rfl rfl)⟩
theorem fl_St_12 : gi_fl R_St 12 6 3 := ⟨R_St, F_St, 19, rfl, by decide, i_St, Or.inl (gi_m2 2 rfl rfl)⟩
theorem fF_St_12 : gi_fF R_St 12 6 3 := ⟨R_St, F_St, 19, rfl, by decide, i_St, (gi_m2 2 rfl rfl)⟩
theorem fl_St_66 : gi_fl R_St 66 6 4 := ⟨R_St, F_St, 19, rfl, by decide, i_St, Or.inl (gi_m2 3 rfl rfl)⟩
theorem fl_St_70 : gi_fl R_St 70 6 5 := ⟨R_St, F_St, 19, rfl, by decide, i_St, Or.inl (gi_m2 4 rfl rfl)⟩
theorem fl_St_73 : gi_fl R_St 73 6 6 := ⟨R_St, F_St, 19, rfl, by decide, i_St, Or.inl (gi_m2 5 rfl rfl)⟩
theorem fl_St_144 : gi_fl R_St 144 6 7 := ⟨R_St, F_St, 19, rfl, by decide, i_St, Or.inl (gi_m2 6 rfl rfl)⟩
theorem fl_St_147 : gi_fl R_St 147 6 8 := ⟨R_St, F_St, 19, rfl, by decide, i_St, Or.inl (gi_m2 7 rfl rfl)⟩
theorem fl_St_23 : gi_fl R_St 23 6 9 := ⟨R_St, F_St, 19, rfl, by decide, i_St, Or.inl (gi_m2 8 rfl rfl)⟩
theorem fF_St_23 : gi_fF R_St 23 6 9 := ⟨R_St, F_St, 19, rfl, by decide, i_St, (gi_m2 8 rfl rfl)⟩
theorem fl_St_27 : gi_fl R_St 27 6 10 := ⟨R_St, F_St, 19, rfl, by decide, i_St, Or.inl (gi_m2 9 rfl rfl)⟩
theorem fF_St_27 : gi_fF R_St 27 6 10 := ⟨R_St, F_St, 19, rfl, by decide, i_St, (gi_m2 9 rfl rfl)⟩
theorem fl_St_30 : gi_fl R_St 30 6 11 := ⟨R_St, F_St, 19, rfl, by decide, i_St, Or.inl (gi_m2 10 rfl rfl)⟩
theorem fF_St_30 : gi_fF R_St 30 6 11 := ⟨R_St, F_St, 19, rfl, by decide, i_St, (gi_m2 10 rfl rfl)⟩
theorem fl_St_33 : gi_fl R_St 33 6 12 := ⟨R_St, F_St, 19, rfl, by decide, i_St, Or.inl (gi_m2 11 rfl rfl)⟩
theorem fF_St_33 : gi_fF R_St 33 6 12 := ⟨R_St, F_St, 19, rfl, by decide, i_St, (gi_m2 11 rfl rfl)⟩
theorem fl_St_39 : gi_fl R_St 39 6 13 := ⟨R_St, F_St, 19, rfl, by decide, i_St, Or.inl (gi_m2 12 rfl rfl)⟩
theorem fF_St_39 : gi_fF R_St 39 6 13 := ⟨R_St, F_St, 19, rfl, by decide, i_St, (gi_m2 12 rfl rfl)⟩
theorem fl_St_43 : gi_fl R_St 43 6 14 := ⟨R_St, F_St, 19, rfl, by decide, i_St, Or.inl (gi_m2 13 rfl rfl)⟩
theorem fF_St_43 : gi_fF R_St 43 6 14 := ⟨R_St, F_St, 19, rfl, by decide, i_St, (gi_m2 13 rfl rfl)⟩
theorem fl_St_46 : gi_fl R_St 46 6 15 := ⟨R_St, F_St, 19, rfl, by decide, i_St, Or.inl (gi_m2 14 rfl rfl)⟩
theorem fF_St_46 : gi_fF R_St 46 6 15 := ⟨R_St, F_St, 19, rfl, by decide, i_St, (gi_m2 14 rfl rfl)⟩
theorem fl_St_49 : gi_fl R_St 49 6 16 := ⟨R_St, F_St, 19, rfl, by decide, i_St, Or.inl (gi_m2 15 rfl rfl)⟩
theorem fF_St_49 : gi_fF R_St 49 6 16 := ⟨R_St, F_St, 19, rfl, by decide, i_St, (gi_m2 15 rfl rfl)⟩
theorem fl_St_52 : gi_fl R_St 52 6 17 := ⟨R_St, F_St, 19, rfl, by decide, i_St, Or.inl (gi_m2 16 rfl rfl)⟩
theorem fF_St_52 : gi_fF R_St 52 6 17 := ⟨R_St, F_St, 19, rfl, by decide, i_St, (gi_m2 16 rfl rfl)⟩
theorem fl_St_55 : gi_fl R_St 55 6 18 := ⟨R_St, F_St, 19, rfl, by decide, i_St, Or.inl (gi_m2 17 rfl rfl)⟩
theorem fF_St_55 : gi_fF R_St 55 6 18 := ⟨R_St, F_St, 19, rfl, by decide, i_St, (gi_m2 17 rfl rfl)⟩
theorem fl_Ju_9 : gi_fl R_Ju 9 8 0 := ⟨R_Ju, F_Ju, 2, rfl, by decide, i_Ju, Or.inl (gi_m2 63 rfl rfl)⟩
theorem fF_Ju_9 : gi_fF R_Ju 9 8 0 := ⟨R_Ju, F_Ju, 2, rfl, by decide, i_Ju, (gi_m2 63 rfl rfl)⟩
theorem fl_Ju_15 : gi_fl R_Ju 15 8 1 := ⟨R_Ju, F_Ju, 2, rfl, by decide, i_Ju, Or.inl (gi_m2 64 rfl rfl)⟩
theorem fF_Ju_15 : gi_fF R_Ju 15 8 1 := ⟨R_Ju, F_Ju, 2, rfl, by decide, i_Ju, (gi_m2 64 rfl rfl)⟩
theorem fl_Gi_21 : gi_fl R_Gi 21 9 0 := ⟨R_Gi, F_Gi, 4, rfl, by decide, i_Gi, Or.inl (gi_m2 76 rfl rfl)⟩
theorem fl_H_223 : gi_fl R_H 223 9 0 := ⟨R_Gi, F_Gi, 4, rfl, by decide, i_Gi, Or.inl (gi_m2 77 rfl rfl)⟩
theorem fl_Gi_9 : gi_fl R_Gi 9 9 1 := ⟨R_Gi, F_Gi, 4, rfl, by decide, i_Gi, Or.inl (gi_m2 78 rfl rfl)⟩
theorem fF_Gi_9 : gi_fF R_Gi 9 9 1 := ⟨R_Gi, F_Gi, 4, rfl, by decide, i_Gi, (gi_m2 78 rfl rfl)⟩
theorem fl_Gi_15 : gi_fl R_Gi 15 9 2 := ⟨R_Gi, F_Gi, 4, rfl, by decide, i_Gi, Or.inl (gi_m2 79 rfl rfl)⟩
theorem fF_Gi_15 : gi_fF R_Gi 15 9 2 := ⟨R_Gi, F_Gi, 4, rfl, by decide, i_Gi, (gi_m2 79 rfl rfl)⟩
theorem fl_Gi_18 : gi_fl R_Gi 18 9 3 := ⟨R_Gi, F_Gi, 4, rfl, by decide, i_Gi, Or.inl (gi_m2 80 rfl rfl)⟩
theorem fF_Gi_18 : gi_fF R_Gi 18 9 3 := ⟨R_Gi, F_Gi, 4, rfl, by decide, i_Gi, (gi_m2 80 rfl rfl)⟩
theorem fl_He_24 : gi_fl R_He 24 11 0 := ⟨R_He, F_He, 6, rfl, by decide, i_He, Or.inl (gi_m2 102 rfl rfl)⟩
theorem fl_Ma_82 : gi_fl R_Ma 82 11 0 := ⟨R_He, F_He, 6, rfl, by decide, i_He, Or.inl (gi_m2 103 rfl rfl)⟩
theorem fl_He_28 : gi_fl R_He 28 11 1 := ⟨R_He, F_He, 6, rfl, by decide, i_He, Or.inl (gi_m2 104 rfl rfl)⟩
theorem fl_He_9 : gi_fl R_He 9 11 2 := ⟨R_He, F_He, 6, rfl, by decide, i_He, Or.inl (gi_m2 105 rfl rfl)⟩
theorem fF_He_9 : gi_fF R_He 9 11 2 := ⟨R_He, F_He, 6, rfl, by decide, i_He, (gi_m2 105 rfl rfl)⟩
theorem fl_He_15 : gi_fl R_He 15 11 3 := ⟨R_He, F_He, 6, rfl, by decide, i_He, Or.inl (gi_m2 106 rfl rfl)⟩
theorem fF_He_15 : gi_fF R_He 15 11 3 := ⟨R_He, F_He, 6, rfl, by decide, i_He, (gi_m2 106 rfl rfl)⟩
theorem fl_He_18 : gi_fl R_He 18 11 4 := ⟨R_He, F_He, 6, rfl, by decide, i_He, Or.inl (gi_m2 107 rfl rfl)⟩
theorem fF_He_18 : gi_fF R_He 18 11 4 := ⟨R_He, F_He, 6, rfl, by decide, i_He, (gi_m2 107 rfl rfl)⟩
theorem fl_He_21 : gi_fl R_He 21 11 5 := ⟨R_He, F_He, 6, rfl, by decide, i_He, Or.inl (gi_m2 108 rfl rfl)⟩
theorem fF_He_21 : gi_fF R_He 21 11 5 := ⟨R_He, F_He, 6, rfl, by decide, i_He, (gi_m2 108 rfl rfl)⟩
theorem fl_Ma_9 : gi_fl R_Ma 9 10 0 := ⟨R_Ma, F_Ma, 16, rfl, by decide, i_Ma, Or.inl (gi_m2 122 rfl rfl)⟩
theorem fl_H_233 : gi_fl R_H 233 10 0 := ⟨R_Ma, F_Ma, 16, rfl, by decide, i_Ma, Or.inl (gi_m2 123 rfl rfl)⟩
theorem fl_Ma_42 : gi_fl R_Ma 42 10 1 := ⟨R_Ma, F_Ma, 16, rfl, by decide, i_Ma, Or.inl (gi_m2 124 rfl rfl)⟩
theorem fF_Ma_42 : gi_fF R_Ma 42 10 1 := ⟨R_Ma, F_Ma, 16, rfl, by decide, i_Ma, (gi_m2 124 rfl rfl)⟩
theorem fl_Ma_46 : gi_fl R_Ma 46 10 2 := ⟨R_Ma, F_Ma, 16, rfl, by decide, i_Ma, Or.inl (gi_m2 125 rfl rfl)⟩
theorem fF_Ma_46 : gi_fF R_Ma 46 10 2 := ⟨R_Ma, F_Ma, 16, rfl, by decide, i_Ma, (gi_m2 125 rfl rfl)⟩
theorem fl_Ma_50 : gi_fl R_Ma 50 10 3 := ⟨R_Ma, F_Ma, 16, rfl, by decide, i_Ma, Or.inl (gi_m2 126 rfl rfl)⟩
theorem fF_Ma_50 : gi_fF R_Ma 50 10 3 := ⟨R_Ma, F_Ma, 16, rfl, by decide, i_Ma, (gi_m2 126 rfl rfl)⟩
theorem fl_Ma_54 : gi_fl R_Ma 54 10 4 := ⟨R_Ma, F_Ma, 16, rfl, by decide, i_Ma, Or.inl (gi_m2 127 rfl rfl)⟩
theorem fF_Ma_54 : gi_fF R_Ma 54 10 4 := ⟨R_Ma, F_Ma, 16, rfl, by decide, i_Ma, (gi_m2 127 rfl rfl)⟩
theorem fl_Ma_18 : gi_fl R_Ma 18 10 5 := ⟨R_Ma, F_Ma, 16, rfl, by decide, i_Ma, Or.inl (gi_m2 128 rfl rfl)⟩
theorem fF_Ma_18 : gi_fF R_Ma 18 10 5 := ⟨R_Ma, F_Ma, 16, rfl, by decide, i_Ma, (gi_m2 128 rfl rfl)⟩
theorem fl_Ma_22 : gi_fl R_Ma 22 10 6 := ⟨R_Ma, F_Ma, 16, rfl, by decide, i_Ma, Or.inl (gi_m2 129 rfl rfl)⟩
theorem fF_Ma_22 : gi_fF R_Ma 22 10 6 := ⟨R_Ma, F_Ma, 16, rfl, by decide, i_Ma, (gi_m2 129 rfl rfl)⟩
theorem fl_Ma_26 : gi_fl R_Ma 26 10 7 := ⟨R_Ma, F_Ma, 16, rfl, by decide, i_Ma, Or.inl (gi_m2 130 rfl rfl)⟩
theorem fF_Ma_26 : gi_fF R_Ma 26 10 7 := ⟨R_Ma, F_Ma, 16, rfl, by decide, i_Ma, (gi_m2 130 rfl rfl)⟩
theorem fl_Ma_30 : gi_fl R_Ma 30 10 8 := ⟨R_Ma, F_Ma, 16, rfl, by decide, i_Ma, Or.inl (gi_m2 131 rfl rfl)⟩
theorem fF_Ma_30 : gi_fF R_Ma 30 10 8 := ⟨R_Ma, F_Ma, 16, rfl, by decide, i_Ma, (gi_m2 131 rfl rfl)⟩
theorem fl_Ma_33 : gi_fl R_Ma 33 10 9 := ⟨R_Ma, F_Ma, 16, rfl, by decide, i_Ma, Or.inl (gi_m2 132 rfl rfl)⟩
theorem fF_Ma_33 : gi_fF R_Ma 33 10 9 := ⟨R_Ma, F_Ma, 16, rfl, by decide, i_Ma, (gi_m2 132 rfl rfl)⟩
theorem fl_Ma_36 : gi_fl R_Ma 36 10 10 := ⟨R_Ma, F_Ma, 16, rfl, by decide, i_Ma, Or.inl (gi_m2 133 rfl rfl)⟩
theorem fF_Ma_36 : gi_fF R_Ma 36 10 10 := ⟨R_Ma, F_Ma, 16, rfl, by decide, i_Ma, (gi_m2 133 rfl rfl)⟩
theorem fl_Ma_39 : gi_fl R_Ma 39 10 11 := ⟨R_Ma, F_Ma, 16, rfl, by decide, i_Ma, Or.inl (gi_m2 134 rfl rfl)⟩
theorem fF_Ma_39 : gi_fF R_Ma 39 10 11 := ⟨R_Ma, F_Ma, 16, rfl, by decide, i_Ma, (gi_m2 134 rfl rfl)⟩
theorem fl_Ma_72 : gi_fl R_Ma 72 10 12 := ⟨R_Ma, F_Ma, 16, rfl, by decide, i_Ma, Or.inl (gi_m2 135 rfl rfl)⟩
theorem fl_Ma_79 : gi_fl R_Ma 79 10 13 := ⟨R_Ma, F_Ma, 16, rfl, by decide, i_Ma, Or.inl (gi_m2 136 rfl rfl)⟩
theorem fl_Ma_60 : gi_fl R_Ma 60 10 14 := ⟨R_Ma, F_Ma, 16, rfl, by decide, i_Ma, Or.inl (gi_m2 137 rfl rfl)⟩
theorem fl_Ma_85 : gi_fl R_Ma 85 10 15 := ⟨R_Ma, F_Ma, 16, rfl, by decide, i_Ma, Or.inl (gi_m2 138 rfl rfl)⟩
theorem fl_H_12 : gi_fl R_H 12 0 0 := ⟨R_H, F_H, 10, rfl, by decide, i_H, Or.inl (gi_m2 173 rfl rfl)⟩
theorem fF_H_12 : gi_fF R_H 12 0 0 := ⟨R_H, F_H, 10, rfl, by decide, i_H, (gi_m2 173 rfl rfl)⟩
theorem fl_H_21 : gi_fl R_H 21 0 1 := ⟨R_H, F_H, 10, rfl, by decide, i_H, Or.inl (gi_m2 174 rfl rfl)⟩
theorem fF_H_21 : gi_fF R_H 21 0 1 := ⟨R_H, F_H, 10, rfl, by decide, i_H, (gi_m2 174 rfl rfl)⟩
theorem fl_H_28 : gi_fl R_H 28 0 2 := ⟨R_H, F_H, 10, rfl, by decide, i_H, Or.inl (gi_m2 175 rfl rfl)⟩
theorem fF_H_28 : gi_fF R_H 28 0 2 := ⟨R_H, F_H, 10, rfl, by decide, i_H, (gi_m2 175 rfl rfl)⟩
theorem fl_H_32 : gi_fl R_H 32 0 3 := ⟨R_H, F_H, 10, rfl, by decide, i_H, Or.inl (gi_m2 176 rfl rfl)⟩
theorem fF_H_32 : gi_fF R_H 32 0 3 := ⟨R_H, F_H, 10, rfl, by decide, i_H, (gi_m2 176 rfl rfl)⟩
theorem fl_H_40 : gi_fl R_H 40 0 4 := ⟨R_H, F_H, 10, rfl, by decide, i_H, Or.inl (gi_m2 177 rfl rfl)⟩
theorem fF_H_40 : gi_fF R_H 40 0 4 := ⟨R_H, F_H, 10, rfl, by decide, i_H, (gi_m2 177 rfl rfl)⟩
theorem fl_H_49 : gi_fl R_H 49 0 5 := ⟨R_H, F_H, 10, rfl, by decide, i_H, Or.inl (gi_m2 178 rfl rfl)⟩
theorem fF_H_49 : gi_fF R_H 49 0 5 := ⟨R_H, F_H, 10, rfl, by decide, i_H, (gi_m2 178 rfl rfl)⟩
theorem fl_H_56 : gi_fl R_H 56 0 6 := ⟨R_H, F_H, 10, rfl, by decide, i_H, Or.inl (gi_m2 179 rfl rfl)⟩
theorem fF_H_56 : gi_fF R_H 56 0 6 := ⟨R_H, F_H, 10, rfl, by decide, i_H, (gi_m2 179 rfl rfl)⟩
theorem fl_H_65 : gi_fl R_H 65 0 7 := ⟨R_H, F_H, 10, rfl, by decide, i_H, Or.inl (gi_m2 180 rfl rfl)⟩
theorem fF_H_65 : gi_fF R_H 65 0 7 := ⟨R_H, F_H, 10, rfl, by decide, i_H, (gi_m2 180 rfl rfl)⟩
theorem fl_H_69 : gi_fl R_H 69 0 8 := ⟨R_H, F_H, 10, rfl, by decide, i_H, Or.inl (gi_m2 181 rfl rfl)⟩
theorem fl_H_73 : gi_fl R_H 73 0 9 := ⟨R_H, F_H, 10, rfl, by decide, i_H, Or.inl (gi_m2 182 rfl rfl)⟩
theorem fl_Mo_176 : gi_fl R_Mo 176 12 0 := ⟨R_Mo, F_Mo, 89, rfl, by decide, i_Mo, Or.inl (gi_m6 26 rfl rfl)⟩
theorem fl_Mo_7 : gi_fl R_Mo 7 12 1 := ⟨R_Mo, F_Mo, 89, rfl, by decide, i_Mo, Or.inl (gi_m6 27 rfl rfl)⟩
theorem fF_Mo_7 : gi_fF R_Mo 7 12 1 := ⟨R_Mo, F_Mo, 89, rfl, by decide, i_Mo, (gi_m6 27 rfl rfl)⟩
theorem fl_Mo_13 : gi_fl R_Mo 13 12 2 := ⟨R_Mo, F_Mo, 89, rfl, by decide, i_Mo, Or.inl (gi_m6 28 rfl rfl)⟩
theorem fF_Mo_13 : gi_fF R_Mo 13 12 2 := ⟨R_Mo, F_Mo, 89, rfl, by decide, i_Mo, (gi_m6 28 rfl rfl)⟩
theorem fl_Mo_16 : gi_fl R_Mo 16 12 3 := ⟨R_Mo, F_Mo, 89, rfl, by decide, i_Mo, Or.inl (gi_m6 29 rfl rfl)⟩
theorem fF_Mo_16 : gi_fF R_Mo 16 12 3 := ⟨R_Mo, F_Mo, 89, rfl, by decide, i_Mo, (gi_m6 29 rfl rfl)⟩
theorem fl_Mo_19 : gi_fl R_Mo 19 12 4 := ⟨R_Mo, F_Mo, 89, rfl, by decide, i_Mo, Or.inl (gi_m6 30 rfl rfl)⟩
theorem fF_Mo_19 : gi_fF R_Mo 19 12 4 := ⟨R_Mo, F_Mo, 89, rfl, by decide, i_Mo, (gi_m6 30 rfl rfl)⟩
theorem fl_Mo_22 : gi_fl R_Mo 22 12 5 := ⟨R_Mo, F_Mo, 89, rfl, by decide, i_Mo, Or.inl (gi_m6 31 rfl rfl)⟩
theorem fF_Mo_22 : gi_fF R_Mo 22 12 5 := ⟨R_Mo, F_Mo, 89, rfl, by decide, i_Mo, (gi_m6 31 rfl rfl)⟩
theorem fl_Mo_25 : gi_fl R_Mo 25 12 6 := ⟨R_Mo, F_Mo, 89, rfl, by decide, i_Mo, Or.inl (gi_m6 32 rfl rfl)⟩
theorem fF_Mo_25 : gi_fF R_Mo 25 12 6 := ⟨R_Mo, F_Mo, 89, rfl, by decide, i_Mo, (gi_m6 32 rfl rfl)⟩
theorem fl_Mo_28 : gi_fl R_Mo 28 12 7 := ⟨R_Mo, F_Mo, 89, rfl, by decide, i_Mo, Or.inl (gi_m6 33 rfl rfl)⟩
theorem fF_Mo_28 : gi_fF R_Mo 28 12 7 := ⟨R_Mo, F_Mo, 89, rfl, by decide, i_Mo, (gi_m6 33 rfl rfl)⟩
theorem fl_Mo_179 : gi_fl R_Mo 179 12 8 := ⟨R_Mo, F_Mo, 89, rfl, by decide, i_Mo, Or.inl (gi_m6 34 rfl rfl)⟩
theorem fl_Mo_183 : gi_fl R_Mo 183 12 9 := ⟨R_Mo, F_Mo, 89, rfl, by decide, i_Mo, Or.inl (gi_m6 35 rfl rfl)⟩
theorem fl_Mo_31 : gi_fl R_Mo 31 12 10 := ⟨R_Mo, F_Mo, 89, rfl, by decide, i_Mo, Or.inl (gi_m6 36 rfl rfl)⟩
theorem fl_Mo_35 : gi_fl R_Mo 35 12 11 := ⟨R_Mo, F_Mo, 89, rfl, by decide, i_Mo, Or.inl (gi_m6 37 rfl rfl)⟩
theorem fl_Mo_38 : gi_fl R_Mo 38 12 12 := ⟨R_Mo, F_Mo, 89, rfl, by decide, i_Mo, Or.inl (gi_m6 38 rfl rfl)⟩
theorem fF_Mo_38 : gi_fF R_Mo 38 12 12 := ⟨R_Mo, F_Mo, 89, rfl, by decide, i_Mo, (gi_m6 38 rfl rfl)⟩
theorem fl_Mo_41 : gi_fl R_Mo 41 12 13 := ⟨R_Mo, F_Mo, 89, rfl, by decide, i_Mo, Or.inl (gi_m6 39 rfl rfl)⟩
theorem fF_Mo_41 : gi_fF R_Mo 41 12 13 := ⟨R_Mo, F_Mo, 89, rfl, by decide, i_Mo, (gi_m6 39 rfl rfl)⟩
theorem fl_Mo_44 : gi_fl R_Mo 44 12 14 := ⟨R_Mo, F_Mo, 89, rfl, by decide, i_Mo, Or.inl (gi_m6 40 rfl rfl)⟩
theorem fF_Mo_44 : gi_fF R_Mo 44 12 14 := ⟨R_Mo, F_Mo, 89, rfl, by decide, i_Mo, (gi_m6 40 rfl rfl)⟩
theorem fl_Mo_48 : gi_fl R_Mo 48 12 15 := ⟨R_Mo, F_Mo, 89, rfl, by decide, i_Mo, Or.inl (gi_m6 41 rfl rfl)⟩
theorem fF_Mo_48 : gi_fF R_Mo 48 12 15 := ⟨R_Mo, F_Mo, 89, rfl, by decide, i_Mo, (gi_m6 41 rfl rfl)⟩
theorem fl_Mo_51 : gi_fl R_Mo 51 12 16 := ⟨R_Mo, F_Mo, 89, rfl, by decide, i_Mo, Or.inl (gi_m6 42 rfl rfl)⟩
theorem fF_Mo_51 : gi_fF R_Mo 51 12 16 := ⟨R_Mo, F_Mo, 89, rfl, by decide, i_Mo, (gi_m6 42 rfl rfl)⟩
theorem fl_Mo_54 : gi_fl R_Mo 54 12 17 := ⟨R_Mo, F_Mo, 89, rfl, by decide, i_Mo, Or.inl (gi_m6 43 rfl rfl)⟩
theorem fF_Mo_54 : gi_fF R_Mo 54 12 17 := ⟨R_Mo, F_Mo, 89, rfl, by decide, i_Mo, (gi_m6 43 rfl rfl)⟩
theorem fl_Mo_229 : gi_fl R_Mo 229 12 18 := ⟨R_Mo, F_Mo, 89, rfl, by decide, i_Mo, Or.inl (gi_m6 44 rfl rfl)⟩
theorem fl_Mo_190 : gi_fl R_Mo 190 12 19 := ⟨R_Mo, F_Mo, 89, rfl, by decide, i_Mo, Or.inl (gi_m6 45 rfl rfl)⟩
theorem fl_Mo_193 : gi_fl R_Mo 193 12 20 := ⟨R_Mo, F_Mo, 89, rfl, by decide, i_Mo, Or.inl (gi_m6 46 rfl rfl)⟩
theorem fl_Mo_196 : gi_fl R_Mo 196 12 21 := ⟨R_Mo, F_Mo, 89, rfl, by decide, i_Mo, Or.inl (gi_m6 47 rfl rfl)⟩
theorem fl_Mo_242 : gi_fl R_Mo 242 12 22 := ⟨R_Mo, F_Mo, 89, rfl, by decide, i_Mo, Or.inl (gi_m6 48 rfl rfl)⟩
theorem fl_Mo_246 : gi_fl R_Mo 246 12 23 := ⟨R_Mo, F_Mo, 89, rfl, by decide, i_Mo, Or.inl (gi_m6 49 rfl rfl)⟩
theorem fl_Mo_249 : gi_fl R_Mo 249 12 24 := ⟨R_Mo, F_Mo, 89, rfl, by decide, i_Mo, Or.inl (gi_m6 50 rfl rfl)⟩
theorem fl_Mo_324 : gi_fl R_Mo 324 12 25 := ⟨R_Mo, F_Mo, 89, rfl, by decide, i_Mo, Or.inl (gi_m6 51 rfl rfl)⟩
theorem fl_Mo_327 : gi_fl R_Mo 327 12 26 := ⟨R_Mo, F_Mo, 89, rfl, by decide, i_Mo, Or.inl (gi_m6 52 rfl rfl)⟩
theorem fl_Mo_333 : gi_fl R_Mo 333 12 27 := ⟨R_Mo, F_Mo, 89, rfl, by decide, i_Mo, Or.inl (gi_m6 53 rfl rfl)⟩
theorem fl_Mo_336 : gi_fl R_Mo 336 12 28 := ⟨R_Mo, F_Mo, 89, rfl, by decide, i_Mo, Or.inl (gi_m6 54 rfl rfl)⟩
theorem fl_Mo_321 : gi_fl R_Mo 321 12 29 := ⟨R_Mo, F_Mo, 89, rfl, by decide, i_Mo, Or.inl (gi_m6 55 rfl rfl)⟩
theorem fl_Mo_330 : gi_fl R_Mo 330 12 30 := ⟨R_Mo, F_Mo, 89, rfl, by decide, i_Mo, Or.inl (gi_m6 56 rfl rfl)⟩
theorem fl_Mo_57 : gi_fl R_Mo 57 12 31 := ⟨R_Mo, F_Mo, 89, rfl, by decide, i_Mo, Or.inl (gi_m6 57 rfl rfl)⟩
theorem fF_Mo_57 : gi_fF R_Mo 57 12 31 := ⟨R_Mo, F_Mo, 89, rfl, by decide, i_Mo, (gi_m6 57 rfl rfl)⟩
theorem fl_Mo_60 : gi_fl R_Mo 60 12 32 := ⟨R_Mo, F_Mo, 89, rfl, by decide, i_Mo, Or.inl (gi_m6 58 rfl rfl)⟩
theorem fF_Mo_60 : gi_fF R_Mo 60 12 32 := ⟨R_Mo, F_Mo, 89, rfl, by decide, i_Mo, (gi_m6 58 rfl rfl)⟩
theorem fl_Mo_64 : gi_fl R_Mo 64 12 33 := ⟨R_Mo, F_Mo, 89, rfl, by decide, i_Mo, Or.inl (gi_m6 59 rfl rfl)⟩
theorem fF_Mo_64 : gi_fF R_Mo 64 12 33 := ⟨R_Mo, F_Mo, 89, rfl, by decide, i_Mo, (gi_m6 59 rfl rfl)⟩
theorem fl_Mo_67 : gi_fl R_Mo 67 12 34 := ⟨R_Mo, F_Mo, 89, rfl, by decide, i_Mo, Or.inl (gi_m6 60 rfl rfl)⟩
theorem fF_Mo_67 : gi_fF R_Mo 67 12 34 := ⟨R_Mo, F_Mo, 89, rfl, by decide, i_Mo, (gi_m6 60 rfl rfl)⟩
theorem fl_Mo_70 : gi_fl R_Mo 70 12 35 := ⟨R_Mo, F_Mo, 89, rfl, by decide, i_Mo, Or.inl (gi_m6 61 rfl rfl)⟩
theorem fF_Mo_70 : gi_fF R_Mo 70 12 35 := ⟨R_Mo, F_Mo, 89, rfl, by decide, i_Mo, (gi_m6 61 rfl rfl)⟩
theorem fl_Mo_73 : gi_fl R_Mo 73 12 36 := ⟨R_Mo, F_Mo, 89, rfl, by decide, i_Mo, Or.inl (gi_m6 62 rfl rfl)⟩
theorem fF_Mo_73 : gi_fF R_Mo 73 12 36 := ⟨R_Mo, F_Mo, 89, rfl, by decide, i_Mo, (gi_m6 62 rfl rfl)⟩
theorem fl_Mo_76 : gi_fl R_Mo 76 12 37 := ⟨R_Mo, F_Mo, 89, rfl, by decide, i_Mo, Or.inl (gi_m6 63 rfl rfl)⟩
theorem fF_Mo_76 : gi_fF R_Mo 76 12 37 := ⟨R_Mo, F_Mo, 89, rfl, by decide, i_Mo, (gi_m6 63 rfl rfl)⟩
theorem fl_Mo_80 : gi_fl R_Mo 80 12 38 := ⟨R_Mo, F_Mo, 89, rfl, by decide, i_Mo, Or.inl (gi_m6 64 rfl rfl)⟩
theorem fF_Mo_80 : gi_fF R_Mo 80 12 38 := ⟨R_Mo, F_Mo, 89, rfl, by decide, i_Mo, (gi_m6 64 rfl rfl)⟩
theorem fl_Mo_83 : gi_fl R_Mo 83 12 39 := ⟨R_Mo, F_Mo, 89, rfl, by decide, i_Mo, Or.inl (gi_m6 65 rfl rfl)⟩
theorem fF_Mo_83 : gi_fF R_Mo 83 12 39 := ⟨R_Mo, F_Mo, 89, rfl, by decide, i_Mo, (gi_m6 65 rfl rfl)⟩
theorem fl_Mo_86 : gi_fl R_Mo 86 12 40 := ⟨R_Mo, F_Mo, 89, rfl, by decide, i_Mo, Or.inl (gi_m6 66 rfl rfl)⟩
theorem fF_Mo_86 : gi_fF R_Mo 86 12 40 := ⟨R_Mo, F_Mo, 89, rfl, by decide, i_Mo, (gi_m6 66 rfl rfl)⟩
theorem fl_Mo_89 : gi_fl R_Mo 89 12 41 := ⟨R_Mo, F_Mo, 89, rfl, by decide, i_Mo, Or.inl (gi_m6 67 rfl rfl)⟩
theorem fF_Mo_89 : gi_fF R_Mo 89 12 41 := ⟨R_Mo, F_Mo, 89, rfl, by decide, i_Mo, (gi_m6 67 rfl rfl)⟩
theorem fl_Mo_92 : gi_fl R_Mo 92 12 42 := ⟨R_Mo, F_Mo, 89, rfl, by decide, i_Mo, Or.inl (gi_m6 68 rfl rfl)⟩
theorem fF_Mo_92 : gi_fF R_Mo 92 12 42 := ⟨R_Mo, F_Mo, 89, rfl, by decide, i_Mo, (gi_m6 68 rfl rfl)⟩
theorem fl_Mo_95 : gi_fl R_Mo 95 12 43 := ⟨R_Mo, F_Mo, 89, rfl, by decide, i_Mo, Or.inl (gi_m6 69 rfl rfl)⟩
theorem fF_Mo_95 : gi_fF R_Mo 95 12 43 := ⟨R_Mo, F_Mo, 89, rfl, by decide, i_Mo, (gi_m6 69 rfl rfl)⟩
theorem fl_Mo_98 : gi_fl R_Mo 98 12 44 := ⟨R_Mo, F_Mo, 89, rfl, by decide, i_Mo, Or.inl (gi_m6 70 rfl rfl)⟩
theorem fF_Mo_98 : gi_fF R_Mo 98 12 44 := ⟨R_Mo, F_Mo, 89, rfl, by decide, i_Mo, (gi_m6 70 rfl rfl)⟩
theorem fl_Mo_101 : gi_fl R_Mo 101 12 45 := ⟨R_Mo, F_Mo, 89, rfl, by decide, i_Mo, Or.inl (gi_m6 71 rfl rfl)⟩
theorem fF_Mo_101 : gi_fF R_Mo 101 12 45 := ⟨R_Mo, F_Mo, 89, rfl, by decide, i_Mo, (gi_m6 71 rfl rfl)⟩
theorem fl_Mo_498 : gi_fl R_Mo 498 12 46 := ⟨R_Mo, F_Mo, 89, rfl, by decide, i_Mo, Or.inl (gi_m6 72 rfl rfl)⟩
theorem fl_Mo_392 : gi_fl R_Mo 392 12 47 := ⟨R_Mo, F_Mo, 89, rfl, by decide, i_Mo, Or.inl (gi_m6 73 rfl rfl)⟩
theorem fl_Mo_363 : gi_fl R_Mo 363 12 48 := ⟨R_Mo, F_Mo, 89, rfl, by decide, i_Mo, Or.inl (gi_m6 74 rfl rfl)⟩
theorem fl_Mo_422 : gi_fl R_Mo 422 12 49 := ⟨R_Mo, F_Mo, 89, rfl, by decide, i_Mo, Or.inl (gi_m6 75 rfl rfl)⟩
theorem fl_Mo_401 : gi_fl R_Mo 401 12 50 := ⟨R_Mo, F_Mo, 89, rfl, by decide, i_Mo, Or.inl (gi_m6 76 rfl rfl)⟩
theorem fl_Mo_395 : gi_fl R_Mo 395 12 51 := ⟨R_Mo, F_Mo, 89, rfl, by decide, i_Mo, Or.inl (gi_m6 77 rfl rfl)⟩
theorem fl_Mo_104 : gi_fl R_Mo 104 12 52 := ⟨R_Mo, F_Mo, 89, rfl, by decide, i_Mo, Or.inl (gi_m6 78 rfl rfl)⟩
theorem fF_Mo_104 : gi_fF R_Mo 104 12 52 := ⟨R_Mo, F_Mo, 89, rfl, by decide, i_Mo, (gi_m6 78 rfl rfl)⟩
theorem fl_Mo_107 : gi_fl R_Mo 107 12 53 := ⟨R_Mo, F_Mo, 89, rfl, by decide, i_Mo, Or.inl (gi_m6 79 rfl rfl)⟩
theorem fF_Mo_107 : gi_fF R_Mo 107 12 53 := ⟨R_Mo, F_Mo, 89, rfl, by decide, i_Mo, (gi_m6 79 rfl rfl)⟩
theorem fl_Mo_110 : gi_fl R_Mo 110 12 54 := ⟨R_Mo, F_Mo, 89, rfl, by decide, i_Mo, Or.inl (gi_m6 80 rfl rfl)⟩
theorem fF_Mo_110 : gi_fF R_Mo 110 12 54 := ⟨R_Mo, F_Mo, 89, rfl, by decide, i_Mo, (gi_m6 80 rfl rfl)⟩
theorem fl_Mo_113 : gi_fl R_Mo 113 12 55 := ⟨R_Mo, F_Mo, 89, rfl, by decide, i_Mo, Or.inl (gi_m6 81 rfl rfl)⟩
theorem fF_Mo_113 : gi_fF R_Mo 113 12 55 := ⟨R_Mo, F_Mo, 89, rfl, by decide, i_Mo, (gi_m6 81 rfl rfl)⟩
theorem fl_Mo_116 : gi_fl R_Mo 116 12 56 := ⟨R_Mo, F_Mo, 89, rfl, by decide, i_Mo, Or.inl (gi_m6 82 rfl rfl)⟩
theorem fF_Mo_116 : gi_fF R_Mo 116 12 56 := ⟨R_Mo, F_Mo, 89, rfl, by decide, i_Mo, (gi_m6 82 rfl rfl)⟩
theorem fl_Mo_119 : gi_fl R_Mo 119 12 57 := ⟨R_Mo, F_Mo, 89, rfl, by decide, i_Mo, Or.inl (gi_m6 83 rfl rfl)⟩
theorem fF_Mo_119 : gi_fF R_Mo 119 12 57 := ⟨R_Mo, F_Mo, 89, rfl, by decide, i_Mo, (gi_m6 83 rfl rfl)⟩
theorem fl_Mo_357 : gi_fl R_Mo 357 12 58 := ⟨R_Mo, F_Mo, 89, rfl, by decide, i_Mo, Or.inl (gi_m6 84 rfl rfl)⟩
theorem fl_Mo_428 : gi_fl R_Mo 428 12 59 := ⟨R_Mo, F_Mo, 89, rfl, by decide, i_Mo, Or.inl (gi_m6 85 rfl rfl)⟩
theorem fl_Mo_122 : gi_fl R_Mo 122 12 60 := ⟨R_Mo, F_Mo, 89, rfl, by decide, i_Mo, Or.inl (gi_m6 86 rfl rfl)⟩
theorem fF_Mo_122 : gi_fF R_Mo 122 12 60 := ⟨R_Mo, F_Mo, 89, rfl, by decide, i_Mo, (gi_m6 86 rfl rfl)⟩
theorem fl_Mo_125 : gi_fl R_Mo 125 12 61 := ⟨R_Mo, F_Mo, 89, rfl, by decide, i_Mo, Or.inl (gi_m6 87 rfl rfl)⟩
theorem fF_Mo_125 : gi_fF R_Mo 125 12 61 := ⟨R_Mo, F_Mo, 89, rfl, by decide, i_Mo, (gi_m6 87 rfl rfl)⟩
theorem fl_Mo_128 : gi_fl R_Mo 128 12 62 := ⟨R_Mo, F_Mo, 89, rfl, by decide, i_Mo, Or.inl (gi_m6 88 rfl rfl)⟩
theorem fF_Mo_128 : gi_fF R_Mo 128 12 62 := ⟨R_Mo, F_Mo, 89, rfl, by decide, i_Mo, (gi_m6 88 rfl rfl)⟩
theorem fl_Mo_131 : gi_fl R_Mo 131 12 63 := ⟨R_Mo, F_Mo, 89, rfl, by decide, i_Mo, Or.inl (gi_m6 89 rfl rfl)⟩
theorem fF_Mo_131 : gi_fF R_Mo 131 12 63 := ⟨R_Mo, F_Mo, 89, rfl, by decide, i_Mo, (gi_m6 89 rfl rfl)⟩
theorem fl_Mo_134 : gi_fl R_Mo 134 12 64 := ⟨R_Mo, F_Mo, 89, rfl, by decide, i_Mo, Or.inl (gi_m6 90 rfl rfl)⟩
theorem fF_Mo_134 : gi_fF R_Mo 134 12 64 := ⟨R_Mo, F_Mo, 89, rfl, by decide, i_Mo, (gi_m6 90 rfl rfl)⟩
theorem fl_Mo_137 : gi_fl R_Mo 137 12 65 := ⟨R_Mo, F_Mo, 89, rfl, by decide, i_Mo, Or.inl (gi_m6 91 rfl rfl)⟩
theorem fF_Mo_137 : gi_fF R_Mo 137 12 65 := ⟨R_Mo, F_Mo, 89, rfl, by decide, i_Mo, (gi_m6 91 rfl rfl)⟩
theorem fl_Mo_360 : gi_fl R_Mo 360 12 66 := ⟨R_Mo, F_Mo, 89, rfl, by decide, i_Mo, Or.inl (gi_m6 92 rfl rfl)⟩
theorem fl_Mo_537 : gi_fl R_Mo 537 12 67 := ⟨R_Mo, F_Mo, 89, rfl, by decide, i_Mo, Or.inl (gi_m6 93 rfl rfl)⟩
theorem fl_Mo_140 : gi_fl R_Mo 140 12 68 := ⟨R_Mo, F_Mo, 89, rfl, by decide, i_Mo, Or.inl (gi_m6 94 rfl rfl)⟩
theorem fF_Mo_140 : gi_fF R_Mo 140 12 68 := ⟨R_Mo, F_Mo, 89, rfl, by decide, i_Mo, (gi_m6 94 rfl rfl)⟩
theorem fl_Mo_143 : gi_fl R_Mo 143 12 69 := ⟨R_Mo, F_Mo, 89, rfl, by decide, i_Mo, Or.inl (gi_m6 95 rfl rfl)⟩
theorem fF_Mo_143 : gi_fF R_Mo 143 12 69 := ⟨R_Mo, F_Mo, 89, rfl, by decide, i_Mo, (gi_m6 95 rfl rfl)⟩
theorem fl_Mo_146 : gi_fl R_Mo 146 12 70 := ⟨R_Mo, F_Mo, 89, rfl, by decide, i_Mo, Or.inl (gi_m6 96 rfl rfl)⟩
theorem fF_Mo_146 : gi_fF R_Mo 146 12 70 := ⟨R_Mo, F_Mo, 89, rfl, by decide, i_Mo, (gi_m6 96 rfl rfl)⟩
theorem fl_Mo_149 : gi_fl R_Mo 149 12 71 := ⟨R_Mo, F_Mo, 89, rfl, by decide, i_Mo, Or.inl (gi_m6 97 rfl rfl)⟩
theorem fF_Mo_149 : gi_fF R_Mo 149 12 71 := ⟨R_Mo, F_Mo, 89, rfl, by decide, i_Mo, (gi_m6 97 rfl rfl)⟩
theorem fl_Mo_152 : gi_fl R_Mo 152 12 72 := ⟨R_Mo, F_Mo, 89, rfl, by decide, i_Mo, Or.inl (gi_m6 98 rfl rfl)⟩
theorem fF_Mo_152 : gi_fF R_Mo 152 12 72 := ⟨R_Mo, F_Mo, 89, rfl, by decide, i_Mo, (gi_m6 98 rfl rfl)⟩
theorem fl_Mo_155 : gi_fl R_Mo 155 12 73 := ⟨R_Mo, F_Mo, 89, rfl, by decide, i_Mo, Or.inl (gi_m6 99 rfl rfl)⟩
theorem fF_Mo_155 : gi_fF R_Mo 155 12 73 := ⟨R_Mo, F_Mo, 89, rfl, by decide, i_Mo, (gi_m6 99 rfl rfl)⟩
theorem fl_Mo_158 : gi_fl R_Mo 158 12 74 := ⟨R_Mo, F_Mo, 89, rfl, by decide, i_Mo, Or.inl (gi_m6 100 rfl rfl)⟩
theorem fF_Mo_158 : gi_fF R_Mo 158 12 74 := ⟨R_Mo, F_Mo, 89, rfl, by decide, i_Mo, (gi_m6 100 rfl rfl)⟩
theorem fl_Mo_540 : gi_fl R_Mo 540 12 75 := ⟨R_Mo, F_Mo, 89, rfl, by decide, i_Mo, Or.inl (gi_m6 101 rfl rfl)⟩
theorem fl_Mo_543 : gi_fl R_Mo 543 12 76 := ⟨R_Mo, F_Mo, 89, rfl, by decide, i_Mo, Or.inl (gi_m6 102 rfl rfl)⟩
theorem fl_Mo_161 : gi_fl R_Mo 161 12 77 := ⟨R_Mo, F_Mo, 89, rfl, by decide, i_Mo, Or.inl (gi_m6 103 rfl rfl)⟩
theorem fF_Mo_161 : gi_fF R_Mo 161 12 77 := ⟨R_Mo, F_Mo, 89, rfl, by decide, i_Mo, (gi_m6 103 rfl rfl)⟩
theorem fl_Mo_164 : gi_fl R_Mo 164 12 78 := ⟨R_Mo, F_Mo, 89, rfl, by decide, i_Mo, Or.inl (gi_m6 104 rfl rfl)⟩
theorem fF_Mo_164 : gi_fF R_Mo 164 12 78 := ⟨R_Mo, F_Mo, 89, rfl, by decide, i_Mo, (gi_m6 104 rfl rfl)⟩
theorem fl_Mo_167 : gi_fl R_Mo 167 12 79 := ⟨R_Mo, F_Mo, 89, rfl, by decide, i_Mo, Or.inl (gi_m6 105 rfl rfl)⟩
theorem fF_Mo_167 : gi_fF R_Mo 167 12 79 := ⟨R_Mo, F_Mo, 89, rfl, by decide, i_Mo, (gi_m6 105 rfl rfl)⟩
theorem fl_Mo_170 : gi_fl R_Mo 170 12 80 := ⟨R_Mo, F_Mo, 89, rfl, by decide, i_Mo, Or.inl (gi_m6 106 rfl rfl)⟩
theorem fF_Mo_170 : gi_fF R_Mo 170 12 80 := ⟨R_Mo, F_Mo, 89, rfl, by decide, i_Mo, (gi_m6 106 rfl rfl)⟩
theorem fl_Mo_552 : gi_fl R_Mo 552 12 81 := ⟨R_Mo, F_Mo, 89, rfl, by decide, i_Mo, Or.inl (gi_m6 107 rfl rfl)⟩
theorem fl_Mo_564 : gi_fl R_Mo 564 12 82 := ⟨R_Mo, F_Mo, 89, rfl, by decide, i_Mo, Or.inl (gi_m6 108 rfl rfl)⟩
theorem fl_Mo_567 : gi_fl R_Mo 567 12 83 := ⟨R_Mo, F_Mo, 89, rfl, by decide, i_Mo, Or.inl (gi_m6 109 rfl rfl)⟩
theorem fl_Mo_573 : gi_fl R_Mo 573 12 84 := ⟨R_Mo, F_Mo, 89, rfl, by decide, i_Mo, Or.inl (gi_m6 110 rfl rfl)⟩
theorem fl_Mo_555 : gi_fl R_Mo 555 12 85 := ⟨R_Mo, F_Mo, 89, rfl, by decide, i_Mo, Or.inl (gi_m6 111 rfl rfl)⟩
theorem fl_Mo_570 : gi_fl R_Mo 570 12 86 := ⟨R_Mo, F_Mo, 89, rfl, by decide, i_Mo, Or.inl (gi_m6 112 rfl rfl)⟩
theorem fl_Mo_173 : gi_fl R_Mo 173 12 87 := ⟨R_Mo, F_Mo, 89, rfl, by decide, i_Mo, Or.inl (gi_m6 113 rfl rfl)⟩
theorem fl_Mo_546 : gi_fl R_Mo 546 12 88 := ⟨R_Mo, F_Mo, 89, rfl, by decide, i_Mo, Or.inl (gi_m6 114 rfl rfl)⟩
theorem fp_H_0 : gi_fp 0 0 true (.object "AnalysisHouse$Program") := ⟨R_H, F_H, 10, t_H, rfl, by decide, t_H_ok, n_H, rfl, rfl, fun _ => rfl⟩
theorem fp_H_1 : gi_fp 0 1 true (.object "AnalysisHouse$Building") := ⟨R_H, F_H, 10, t_H, rfl, by decide, t_H_ok, n_H, rfl, rfl, fun _ => rfl⟩
theorem fp_H_2 : gi_fp 0 2 true (.object "AnalysisHouse$Facts") := ⟨R_H, F_H, 10, t_H, rfl, by decide, t_H_ok, n_H, rfl, rfl, fun _ => rfl⟩
theorem fp_H_3 : gi_fp 0 3 true (.object "AnalysisHouse$Facts") := ⟨R_H, F_H, 10, t_H, rfl, by decide, t_H_ok, n_H, rfl, rfl, fun _ => rfl⟩
theorem fp_H_4 : gi_fp 0 4 true (.object "AnalysisHouse$Stepper") := ⟨R_H, F_H, 10, t_H, rfl, by decide, t_H_ok, n_H, rfl, rfl, fun _ => rfl⟩
theorem fp_H_5 : gi_fp 0 5 true (.object "AnalysisHouse$Judge") := ⟨R_H, F_H, 10, t_H, rfl, by decide, t_H_ok, n_H, rfl, rfl, fun _ => rfl⟩
theorem fp_H_6 : gi_fp 0 6 true (.object "AnalysisHouse$Given") := ⟨R_H, F_H, 10, t_H, rfl, by decide, t_H_ok, n_H, rfl, rfl, fun _ => rfl⟩
theorem fp_H_7 : gi_fp 0 7 true (.object "AnalysisHouse$Machine") := ⟨R_H, F_H, 10, t_H, rfl, by decide, t_H_ok, n_H, rfl, rfl, fun _ => rfl⟩
theorem fp_H_8 : gi_fp 0 8 false (.boolean) := ⟨R_H, F_H, 10, t_H, rfl, by decide, t_H_ok, n_H, rfl, rfl, fun _ => rfl⟩
theorem fp_H_9 : gi_fp 0 9 false (.int) := ⟨R_H, F_H, 10, t_H, rfl, by decide, t_H_ok, n_H, rfl, rfl, fun _ => rfl⟩
theorem fp_Pr_0 : gi_fp 1 0 false (.int) := ⟨R_Pr, F_Pr, 8, t_Pr, rfl, by decide, t_Pr_ok, n_Pr, rfl, rfl, fun _ => rfl⟩
theorem fp_Pr_1 : gi_fp 1 1 true (.array (.int)) := ⟨R_Pr, F_Pr, 8, t_Pr, rfl, by decide, t_Pr_ok, n_Pr, rfl, rfl, fun _ => rfl⟩
theorem fp_Pr_2 : gi_fp 1 2 true (.array (.int)) := ⟨R_Pr, F_Pr, 8, t_Pr, rfl, by decide, t_Pr_ok, n_Pr, rfl, rfl, fun _ => rfl⟩
theorem fp_Pr_3 : gi_fp 1 3 true (.array (.int)) := ⟨R_Pr, F_Pr, 8, t_Pr, rfl, by decide, t_Pr_ok, n_Pr, rfl, rfl, fun _ => rfl⟩
theorem fp_Pr_4 : gi_fp 1 4 true (.array (.int)) := ⟨R_Pr, F_Pr, 8, t_Pr, rfl, by decide, t_Pr_ok, n_Pr, rfl, rfl, fun _ => rfl⟩
theorem fp_Pr_5 : gi_fp 1 5 true (.array (.int)) := ⟨R_Pr, F_Pr, 8, t_Pr, rfl, by decide, t_Pr_ok, n_Pr, rfl, rfl, fun _ => rfl⟩
theorem fp_Pr_6 : gi_fp 1 6 true (.array (.int)) := ⟨R_Pr, F_Pr, 8, t_Pr, rfl, by decide, t_Pr_ok, n_Pr, rfl, rfl, fun _ => rfl⟩
theorem fp_Pr_7 : gi_fp 1 7 true (.array (.int)) := ⟨R_Pr, F_Pr, 8, t_Pr, rfl, by decide, t_Pr_ok, n_Pr, rfl, rfl, fun _ => rfl⟩
theorem fp_Bu_0 : gi_fp 2 0 false (.boolean) := ⟨R_Bu, F_Bu, 15, t_Bu, rfl, by decide, t_Bu_ok, n_Bu, rfl, rfl, fun _ => rfl⟩
theorem fp_Bu_1 : gi_fp 2 1 false (.int) := ⟨R_Bu, F_Bu, 15, t_Bu, rfl, by decide, t_Bu_ok, n_Bu, rfl, rfl, fun _ => rfl⟩
theorem fp_Bu_2 : gi_fp 2 2 false (.int) := ⟨R_Bu, F_Bu, 15, t_Bu, rfl, by decide, t_Bu_ok, n_Bu, rfl, rfl, fun _ => rfl⟩
theorem fp_Bu_3 : gi_fp 2 3 false (.int) := ⟨R_Bu, F_Bu, 15, t_Bu, rfl, by decide, t_Bu_ok, n_Bu, rfl, rfl, fun _ => rfl⟩
theorem fp_Bu_4 : gi_fp 2 4 false (.int) := ⟨R_Bu, F_Bu, 15, t_Bu, rfl, by decide, t_Bu_ok, n_Bu, rfl, rfl, fun _ => rfl⟩
theorem fp_Bu_5 : gi_fp 2 5 true (.object "AnalysisHouse$Program") := ⟨R_Bu, F_Bu, 15, t_Bu, rfl, by decide, t_Bu_ok, n_Bu, rfl, rfl, fun _ => rfl⟩
theorem fp_Bu_6 : gi_fp 2 6 true (.array (.int)) := ⟨R_Bu, F_Bu, 15, t_Bu, rfl, by decide, t_Bu_ok, n_Bu, rfl, rfl, fun _ => rfl⟩
theorem fp_Bu_7 : gi_fp 2 7 true (.array (.int)) := ⟨R_Bu, F_Bu, 15, t_Bu, rfl, by decide, t_Bu_ok, n_Bu, rfl, rfl, fun _ => rfl⟩
theorem fp_Bu_8 : gi_fp 2 8 true (.array (.boolean)) := ⟨R_Bu, F_Bu, 15, t_Bu, rfl, by decide, t_Bu_ok, n_Bu, rfl, rfl, fun _ => rfl⟩
theorem fp_Bu_9 : gi_fp 2 9 true (.array (.boolean)) := ⟨R_Bu, F_Bu, 15, t_Bu, rfl, by decide, t_Bu_ok, n_Bu, rfl, rfl, fun _ => rfl⟩
theorem fp_Bu_10 : gi_fp 2 10 true (.array (.int)) := ⟨R_Bu, F_Bu, 15, t_Bu, rfl, by decide, t_Bu_ok, n_Bu, rfl, rfl, fun _ => rfl⟩
theorem fp_Bu_11 : gi_fp 2 11 true (.array (.int)) := ⟨R_Bu, F_Bu, 15, t_Bu, rfl, by decide, t_Bu_ok, n_Bu, rfl, rfl, fun _ => rfl⟩
theorem fp_Bu_12 : gi_fp 2 12 true (.array (.int)) := ⟨R_Bu, F_Bu, 15, t_Bu, rfl, by decide, t_Bu_ok, n_Bu, rfl, rfl, fun _ => rfl⟩
theorem fp_Bu_13 : gi_fp 2 13 false (.int) := ⟨R_Bu, F_Bu, 15, t_Bu, rfl, by decide, t_Bu_ok, n_Bu, rfl, rfl, fun _ => rfl⟩
theorem fp_Bu_14 : gi_fp 2 14 false (.int) := ⟨R_Bu, F_Bu, 15, t_Bu, rfl, by decide, t_Bu_ok, n_Bu, rfl, rfl, fun _ => rfl⟩
theorem fp_Fa_0 : gi_fp 3 0 true (.array (.object "AnalysisHouse$Row")) := ⟨R_Fa, F_Fa, 5, t_Fa, rfl, by decide, t_Fa_ok, n_Fa, rfl, rfl, fun _ => rfl⟩
theorem fp_Fa_1 : gi_fp 3 1 true (.array (.object "AnalysisHouse$Row")) := ⟨R_Fa, F_Fa, 5, t_Fa, rfl, by decide, t_Fa_ok, n_Fa, rfl, rfl, fun _ => rfl⟩
theorem fp_Fa_2 : gi_fp 3 2 true (.array (.object "AnalysisHouse$Row")) := ⟨R_Fa, F_Fa, 5, t_Fa, rfl, by decide, t_Fa_ok, n_Fa, rfl, rfl, fun _ => rfl⟩
theorem fp_Fa_3 : gi_fp 3 3 true (.array (.object "AnalysisHouse$Row")) := ⟨R_Fa, F_Fa, 5, t_Fa, rfl, by decide, t_Fa_ok, n_Fa, rfl, rfl, fun _ => rfl⟩
theorem fp_Fa_4 : gi_fp 3 4 true (.array (.object "AnalysisHouse$Row")) := ⟨R_Fa, F_Fa, 5, t_Fa, rfl, by decide, t_Fa_ok, n_Fa, rfl, rfl, fun _ => rfl⟩
theorem fp_Ro_0 : gi_fp 4 0 true (.array (.object "AnalysisHouse$Value")) := ⟨R_Ro, F_Ro, 5, t_Ro, rfl, by decide, t_Ro_ok, n_Ro, rfl, rfl, fun _ => rfl⟩
theorem fp_Ro_1 : gi_fp 4 1 true (.array (.int)) := ⟨R_Ro, F_Ro, 5, t_Ro, rfl, by decide, t_Ro_ok, n_Ro, rfl, rfl, fun _ => rfl⟩
theorem fp_Ro_2 : gi_fp 4 2 false (.int) := ⟨R_Ro, F_Ro, 5, t_Ro, rfl, by decide, t_Ro_ok, n_Ro, rfl, rfl, fun _ => rfl⟩
theorem fp_Ro_3 : gi_fp 4 3 false (.boolean) := ⟨R_Ro, F_Ro, 5, t_Ro, rfl, by decide, t_Ro_ok, n_Ro, rfl, rfl, fun _ => rfl⟩
theorem fp_Ro_4 : gi_fp 4 4 false (.int) := ⟨R_Ro, F_Ro, 5, t_Ro, rfl, by decide, t_Ro_ok, n_Ro, rfl, rfl, fun _ => rfl⟩
theorem fp_Va_0 : gi_fp 5 0 false (.boolean) := ⟨R_Va, F_Va, 6, t_Va, rfl, by decide, t_Va_ok, n_Va, rfl, rfl, fun _ => rfl⟩
theorem fp_Va_1 : gi_fp 5 1 false (.long) := ⟨R_Va, F_Va, 6, t_Va, rfl, by decide, t_Va_ok, n_Va, rfl, rfl, fun _ => rfl⟩
theorem fp_Va_2 : gi_fp 5 2 false (.long) := ⟨R_Va, F_Va, 6, t_Va, rfl, by decide, t_Va_ok, n_Va, rfl, rfl, fun _ => rfl⟩
theorem fp_Va_3 : gi_fp 5 3 false (.long) := ⟨R_Va, F_Va, 6, t_Va, rfl, by decide, t_Va_ok, n_Va, rfl, rfl, fun _ => rfl⟩
theorem fp_Va_4 : gi_fp 5 4 false (.int) := ⟨R_Va, F_Va, 6, t_Va, rfl, by decide, t_Va_ok, n_Va, rfl, rfl, fun _ => rfl⟩
theorem fp_Va_5 : gi_fp 5 5 false (.boolean) := ⟨R_Va, F_Va, 6, t_Va, rfl, by decide, t_Va_ok, n_Va, rfl, rfl, fun _ => rfl⟩
theorem fp_St_0 : gi_fp 6 0 false (.boolean) := ⟨R_St, F_St, 19, t_St, rfl, by decide, t_St_ok, n_St, rfl, rfl, fun _ => rfl⟩
theorem fp_St_1 : gi_fp 6 1 true (.object "AnalysisHouse$Program") := ⟨R_St, F_St, 19, t_St, rfl, by decide, t_St_ok, n_St, rfl, rfl, fun _ => rfl⟩
theorem fp_St_2 : gi_fp 6 2 true (.object "AnalysisHouse$Building") := ⟨R_St, F_St, 19, t_St, rfl, by decide, t_St_ok, n_St, rfl, rfl, fun _ => rfl⟩
theorem fp_St_3 : gi_fp 6 3 true (.object "AnalysisHouse$Reckoner") := ⟨R_St, F_St, 19, t_St, rfl, by decide, t_St_ok, n_St, rfl, rfl, fun _ => rfl⟩
theorem fp_St_4 : gi_fp 6 4 false (.object "AnalysisHouse$Facts") := ⟨R_St, F_St, 19, t_St, rfl, by decide, t_St_ok, n_St, rfl, rfl, fun _ => rfl⟩
theorem fp_St_5 : gi_fp 6 5 false (.object "AnalysisHouse$Facts") := ⟨R_St, F_St, 19, t_St, rfl, by decide, t_St_ok, n_St, rfl, rfl, fun _ => rfl⟩
theorem fp_St_6 : gi_fp 6 6 false (.int) := ⟨R_St, F_St, 19, t_St, rfl, by decide, t_St_ok, n_St, rfl, rfl, fun _ => rfl⟩
theorem fp_St_7 : gi_fp 6 7 false (.int) := ⟨R_St, F_St, 19, t_St, rfl, by decide, t_St_ok, n_St, rfl, rfl, fun _ => rfl⟩
theorem fp_St_8 : gi_fp 6 8 false (.int) := ⟨R_St, F_St, 19, t_St, rfl, by decide, t_St_ok, n_St, rfl, rfl, fun _ => rfl⟩
theorem fp_St_9 : gi_fp 6 9 true (.object "AnalysisHouse$Row") := ⟨R_St, F_St, 19, t_St, rfl, by decide, t_St_ok, n_St, rfl, rfl, fun _ => rfl⟩
theorem fp_St_10 : gi_fp 6 10 true (.object "AnalysisHouse$Row") := ⟨R_St, F_St, 19, t_St, rfl, by decide, t_St_ok, n_St, rfl, rfl, fun _ => rfl⟩
theorem fp_St_11 : gi_fp 6 11 true (.object "AnalysisHouse$Row") := ⟨R_St, F_St, 19, t_St, rfl, by decide, t_St_ok, n_St, rfl, rfl, fun _ => rfl⟩
theorem fp_St_12 : gi_fp 6 12 true (.object "AnalysisHouse$Row") := ⟨R_St, F_St, 19, t_St, rfl, by decide, t_St_ok, n_St, rfl, rfl, fun _ => rfl⟩
theorem fp_St_13 : gi_fp 6 13 true (.object "AnalysisHouse$Value") := ⟨R_St, F_St, 19, t_St, rfl, by decide, t_St_ok, n_St, rfl, rfl, fun _ => rfl⟩
theorem fp_St_14 : gi_fp 6 14 true (.object "AnalysisHouse$Value") := ⟨R_St, F_St, 19, t_St, rfl, by decide, t_St_ok, n_St, rfl, rfl, fun _ => rfl⟩
theorem fp_St_15 : gi_fp 6 15 true (.object "AnalysisHouse$Value") := ⟨R_St, F_St, 19, t_St, rfl, by decide, t_St_ok, n_St, rfl, rfl, fun _ => rfl⟩
theorem fp_St_16 : gi_fp 6 16 true (.object "AnalysisHouse$Value") := ⟨R_St, F_St, 19, t_St, rfl, by decide, t_St_ok, n_St, rfl, rfl, fun _ => rfl⟩
theorem fp_St_17 : gi_fp 6 17 true (.object "AnalysisHouse$Value") := ⟨R_St, F_St, 19, t_St, rfl, by decide, t_St_ok, n_St, rfl, rfl, fun _ => rfl⟩
theorem fp_St_18 : gi_fp 6 18 true (.object "AnalysisHouse$Value") := ⟨R_St, F_St, 19, t_St, rfl, by decide, t_St_ok, n_St, rfl, rfl, fun _ => rfl⟩
theorem fp_Re_0 : gi_fp 7 0 true (.object "AnalysisHouse$Value") := ⟨R_Re, F_Re, 2, t_Re, rfl, by decide, t_Re_ok, n_Re, rfl, rfl, fun _ => rfl⟩
theorem fp_Re_1 : gi_fp 7 1 true (.object "AnalysisHouse$Value") := ⟨R_Re, F_Re, 2, t_Re, rfl, by decide, t_Re_ok, n_Re, rfl, rfl, fun _ => rfl⟩
theorem fp_Ju_0 : gi_fp 8 0 true (.object "AnalysisHouse$Program") := ⟨R_Ju, F_Ju, 2, t_Ju, rfl, by decide, t_Ju_ok, n_Ju, rfl, rfl, fun _ => rfl⟩
theorem fp_Ju_1 : gi_fp 8 1 true (.object "AnalysisHouse$Facts") := ⟨R_Ju, F_Ju, 2, t_Ju, rfl, by decide, t_Ju_ok, n_Ju, rfl, rfl, fun _ => rfl⟩
theorem fp_Gi_0 : gi_fp 9 0 false (.int) := ⟨R_Gi, F_Gi, 4, t_Gi, rfl, by decide, t_Gi_ok, n_Gi, rfl, rfl, fun _ => rfl⟩
theorem fp_Gi_1 : gi_fp 9 1 true (.array (.int)) := ⟨R_Gi, F_Gi, 4, t_Gi, rfl, by decide, t_Gi_ok, n_Gi, rfl, rfl, fun _ => rfl⟩
theorem fp_Gi_2 : gi_fp 9 2 true (.array (.int)) := ⟨R_Gi, F_Gi, 4, t_Gi, rfl, by decide, t_Gi_ok, n_Gi, rfl, rfl, fun _ => rfl⟩
theorem fp_Gi_3 : gi_fp 9 3 true (.array (.int)) := ⟨R_Gi, F_Gi, 4, t_Gi, rfl, by decide, t_Gi_ok, n_Gi, rfl, rfl, fun _ => rfl⟩
theorem fp_Ma_0 : gi_fp 10 0 false (.int) := ⟨R_Ma, F_Ma, 16, t_Ma, rfl, by decide, t_Ma_ok, n_Ma, rfl, rfl, fun _ => rfl⟩
theorem fp_Ma_1 : gi_fp 10 1 true (.object "AnalysisHouse$Program") := ⟨R_Ma, F_Ma, 16, t_Ma, rfl, by decide, t_Ma_ok, n_Ma, rfl, rfl, fun _ => rfl⟩
theorem fp_Ma_2 : gi_fp 10 2 true (.object "AnalysisHouse$Building") := ⟨R_Ma, F_Ma, 16, t_Ma, rfl, by decide, t_Ma_ok, n_Ma, rfl, rfl, fun _ => rfl⟩
theorem fp_Ma_3 : gi_fp 10 3 true (.object "AnalysisHouse$Facts") := ⟨R_Ma, F_Ma, 16, t_Ma, rfl, by decide, t_Ma_ok, n_Ma, rfl, rfl, fun _ => rfl⟩
theorem fp_Ma_4 : gi_fp 10 4 true (.object "AnalysisHouse$Given") := ⟨R_Ma, F_Ma, 16, t_Ma, rfl, by decide, t_Ma_ok, n_Ma, rfl, rfl, fun _ => rfl⟩
theorem fp_Ma_5 : gi_fp 10 5 true (.object "AnalysisHouse$Heap") := ⟨R_Ma, F_Ma, 16, t_Ma, rfl, by decide, t_Ma_ok, n_Ma, rfl, rfl, fun _ => rfl⟩
theorem fp_Ma_6 : gi_fp 10 6 true (.array (.long)) := ⟨R_Ma, F_Ma, 16, t_Ma, rfl, by decide, t_Ma_ok, n_Ma, rfl, rfl, fun _ => rfl⟩
theorem fp_Ma_7 : gi_fp 10 7 true (.array (.int)) := ⟨R_Ma, F_Ma, 16, t_Ma, rfl, by decide, t_Ma_ok, n_Ma, rfl, rfl, fun _ => rfl⟩
theorem fp_Ma_8 : gi_fp 10 8 true (.array (.int)) := ⟨R_Ma, F_Ma, 16, t_Ma, rfl, by decide, t_Ma_ok, n_Ma, rfl, rfl, fun _ => rfl⟩
theorem fp_Ma_9 : gi_fp 10 9 true (.array (.int)) := ⟨R_Ma, F_Ma, 16, t_Ma, rfl, by decide, t_Ma_ok, n_Ma, rfl, rfl, fun _ => rfl⟩
theorem fp_Ma_10 : gi_fp 10 10 true (.array (.int)) := ⟨R_Ma, F_Ma, 16, t_Ma, rfl, by decide, t_Ma_ok, n_Ma, rfl, rfl, fun _ => rfl⟩
theorem fp_Ma_11 : gi_fp 10 11 true (.array (.int)) := ⟨R_Ma, F_Ma, 16, t_Ma, rfl, by decide, t_Ma_ok, n_Ma, rfl, rfl, fun _ => rfl⟩
theorem fp_Ma_12 : gi_fp 10 12 false (.int) := ⟨R_Ma, F_Ma, 16, t_Ma, rfl, by decide, t_Ma_ok, n_Ma, rfl, rfl, fun _ => rfl⟩
theorem fp_Ma_13 : gi_fp 10 13 false (.int) := ⟨R_Ma, F_Ma, 16, t_Ma, rfl, by decide, t_Ma_ok, n_Ma, rfl, rfl, fun _ => rfl⟩
theorem fp_Ma_14 : gi_fp 10 14 false (.boolean) := ⟨R_Ma, F_Ma, 16, t_Ma, rfl, by decide, t_Ma_ok, n_Ma, rfl, rfl, fun _ => rfl⟩
theorem fp_Ma_15 : gi_fp 10 15 false (.boolean) := ⟨R_Ma, F_Ma, 16, t_Ma, rfl, by decide, t_Ma_ok, n_Ma, rfl, rfl, fun _ => rfl⟩
theorem fp_He_0 : gi_fp 11 0 false (.int) := ⟨R_He, F_He, 6, t_He, rfl, by decide, t_He_ok, n_He, rfl, rfl, fun _ => rfl⟩
theorem fp_He_1 : gi_fp 11 1 false (.int) := ⟨R_He, F_He, 6, t_He, rfl, by decide, t_He_ok, n_He, rfl, rfl, fun _ => rfl⟩
theorem fp_He_2 : gi_fp 11 2 true (.array (.int)) := ⟨R_He, F_He, 6, t_He, rfl, by decide, t_He_ok, n_He, rfl, rfl, fun _ => rfl⟩
theorem fp_He_3 : gi_fp 11 3 true (.array (.int)) := ⟨R_He, F_He, 6, t_He, rfl, by decide, t_He_ok, n_He, rfl, rfl, fun _ => rfl⟩
theorem fp_He_4 : gi_fp 11 4 true (.array (.int)) := ⟨R_He, F_He, 6, t_He, rfl, by decide, t_He_ok, n_He, rfl, rfl, fun _ => rfl⟩
theorem fp_He_5 : gi_fp 11 5 true (.array (.int)) := ⟨R_He, F_He, 6, t_He, rfl, by decide, t_He_ok, n_He, rfl, rfl, fun _ => rfl⟩
theorem fp_Mo_0 : gi_fp 12 0 false (.int) := ⟨R_Mo, F_Mo, 89, t_Mo, rfl, by decide, t_Mo_ok, n_Mo, rfl, rfl, fun _ => rfl⟩
theorem fp_Mo_1 : gi_fp 12 1 true (.array (.int)) := ⟨R_Mo, F_Mo, 89, t_Mo, rfl, by decide, t_Mo_ok, n_Mo, rfl, rfl, fun _ => rfl⟩
theorem fp_Mo_2 : gi_fp 12 2 true (.array (.int)) := ⟨R_Mo, F_Mo, 89, t_Mo, rfl, by decide, t_Mo_ok, n_Mo, rfl, rfl, fun _ => rfl⟩
theorem fp_Mo_3 : gi_fp 12 3 true (.array (.int)) := ⟨R_Mo, F_Mo, 89, t_Mo, rfl, by decide, t_Mo_ok, n_Mo, rfl, rfl, fun _ => rfl⟩
theorem fp_Mo_4 : gi_fp 12 4 true (.array (.int)) := ⟨R_Mo, F_Mo, 89, t_Mo, rfl, by decide, t_Mo_ok, n_Mo, rfl, rfl, fun _ => rfl⟩
theorem fp_Mo_5 : gi_fp 12 5 true (.array (.int)) := ⟨R_Mo, F_Mo, 89, t_Mo, rfl, by decide, t_Mo_ok, n_Mo, rfl, rfl, fun _ => rfl⟩
theorem fp_Mo_6 : gi_fp 12 6 true (.array (.int)) := ⟨R_Mo, F_Mo, 89, t_Mo, rfl, by decide, t_Mo_ok, n_Mo, rfl, rfl, fun _ => rfl⟩
theorem fp_Mo_7 : gi_fp 12 7 true (.array (.int)) := ⟨R_Mo, F_Mo, 89, t_Mo, rfl, by decide, t_Mo_ok, n_Mo, rfl, rfl, fun _ => rfl⟩
theorem fp_Mo_8 : gi_fp 12 8 false (.boolean) := ⟨R_Mo, F_Mo, 89, t_Mo, rfl, by decide, t_Mo_ok, n_Mo, rfl, rfl, fun _ => rfl⟩
theorem fp_Mo_9 : gi_fp 12 9 false (.boolean) := ⟨R_Mo, F_Mo, 89, t_Mo, rfl, by decide, t_Mo_ok, n_Mo, rfl, rfl, fun _ => rfl⟩
theorem fp_Mo_10 : gi_fp 12 10 false (.int) := ⟨R_Mo, F_Mo, 89, t_Mo, rfl, by decide, t_Mo_ok, n_Mo, rfl, rfl, fun _ => rfl⟩
theorem fp_Mo_11 : gi_fp 12 11 false (.int) := ⟨R_Mo, F_Mo, 89, t_Mo, rfl, by decide, t_Mo_ok, n_Mo, rfl, rfl, fun _ => rfl⟩
theorem fp_Mo_12 : gi_fp 12 12 true (.array (.int)) := ⟨R_Mo, F_Mo, 89, t_Mo, rfl, by decide, t_Mo_ok, n_Mo, rfl, rfl, fun _ => rfl⟩
theorem fp_Mo_13 : gi_fp 12 13 true (.array (.int)) := ⟨R_Mo, F_Mo, 89, t_Mo, rfl, by decide, t_Mo_ok, n_Mo, rfl, rfl, fun _ => rfl⟩
theorem fp_Mo_14 : gi_fp 12 14 true (.array (.boolean)) := ⟨R_Mo, F_Mo, 89, t_Mo, rfl, by decide, t_Mo_ok, n_Mo, rfl, rfl, fun _ => rfl⟩
theorem fp_Mo_15 : gi_fp 12 15 true (.array (.int)) := ⟨R_Mo, F_Mo, 89, t_Mo, rfl, by decide, t_Mo_ok, n_Mo, rfl, rfl, fun _ => rfl⟩
theorem fp_Mo_16 : gi_fp 12 16 true (.array (.boolean)) := ⟨R_Mo, F_Mo, 89, t_Mo, rfl, by decide, t_Mo_ok, n_Mo, rfl, rfl, fun _ => rfl⟩
theorem fp_Mo_17 : gi_fp 12 17 true (.array (.int)) := ⟨R_Mo, F_Mo, 89, t_Mo, rfl, by decide, t_Mo_ok, n_Mo, rfl, rfl, fun _ => rfl⟩
theorem fp_Mo_18 : gi_fp 12 18 false (.int) := ⟨R_Mo, F_Mo, 89, t_Mo, rfl, by decide, t_Mo_ok, n_Mo, rfl, rfl, fun _ => rfl⟩
theorem fp_Mo_19 : gi_fp 12 19 false (.int) := ⟨R_Mo, F_Mo, 89, t_Mo, rfl, by decide, t_Mo_ok, n_Mo, rfl, rfl, fun _ => rfl⟩
theorem fp_Mo_20 : gi_fp 12 20 false (.int) := ⟨R_Mo, F_Mo, 89, t_Mo, rfl, by decide, t_Mo_ok, n_Mo, rfl, rfl, fun _ => rfl⟩
theorem fp_Mo_21 : gi_fp 12 21 false (.boolean) := ⟨R_Mo, F_Mo, 89, t_Mo, rfl, by decide, t_Mo_ok, n_Mo, rfl, rfl, fun _ => rfl⟩
theorem fp_Mo_22 : gi_fp 12 22 false (.long) := ⟨R_Mo, F_Mo, 89, t_Mo, rfl, by decide, t_Mo_ok, n_Mo, rfl, rfl, fun _ => rfl⟩
theorem fp_Mo_23 : gi_fp 12 23 false (.long) := ⟨R_Mo, F_Mo, 89, t_Mo, rfl, by decide, t_Mo_ok, n_Mo, rfl, rfl, fun _ => rfl⟩
theorem fp_Mo_24 : gi_fp 12 24 false (.long) := ⟨R_Mo, F_Mo, 89, t_Mo, rfl, by decide, t_Mo_ok, n_Mo, rfl, rfl, fun _ => rfl⟩
theorem fp_Mo_25 : gi_fp 12 25 false (.long) := ⟨R_Mo, F_Mo, 89, t_Mo, rfl, by decide, t_Mo_ok, n_Mo, rfl, rfl, fun _ => rfl⟩
theorem fp_Mo_26 : gi_fp 12 26 false (.long) := ⟨R_Mo, F_Mo, 89, t_Mo, rfl, by decide, t_Mo_ok, n_Mo, rfl, rfl, fun _ => rfl⟩
theorem fp_Mo_27 : gi_fp 12 27 false (.long) := ⟨R_Mo, F_Mo, 89, t_Mo, rfl, by decide, t_Mo_ok, n_Mo, rfl, rfl, fun _ => rfl⟩
theorem fp_Mo_28 : gi_fp 12 28 false (.long) := ⟨R_Mo, F_Mo, 89, t_Mo, rfl, by decide, t_Mo_ok, n_Mo, rfl, rfl, fun _ => rfl⟩
theorem fp_Mo_29 : gi_fp 12 29 false (.boolean) := ⟨R_Mo, F_Mo, 89, t_Mo, rfl, by decide, t_Mo_ok, n_Mo, rfl, rfl, fun _ => rfl⟩
theorem fp_Mo_30 : gi_fp 12 30 false (.boolean) := ⟨R_Mo, F_Mo, 89, t_Mo, rfl, by decide, t_Mo_ok, n_Mo, rfl, rfl, fun _ => rfl⟩
theorem fp_Mo_31 : gi_fp 12 31 true (.array (.boolean)) := ⟨R_Mo, F_Mo, 89, t_Mo, rfl, by decide, t_Mo_ok, n_Mo, rfl, rfl, fun _ => rfl⟩
theorem fp_Mo_32 : gi_fp 12 32 true (.array (.long)) := ⟨R_Mo, F_Mo, 89, t_Mo, rfl, by decide, t_Mo_ok, n_Mo, rfl, rfl, fun _ => rfl⟩
theorem fp_Mo_33 : gi_fp 12 33 true (.array (.long)) := ⟨R_Mo, F_Mo, 89, t_Mo, rfl, by decide, t_Mo_ok, n_Mo, rfl, rfl, fun _ => rfl⟩
theorem fp_Mo_34 : gi_fp 12 34 true (.array (.long)) := ⟨R_Mo, F_Mo, 89, t_Mo, rfl, by decide, t_Mo_ok, n_Mo, rfl, rfl, fun _ => rfl⟩
theorem fp_Mo_35 : gi_fp 12 35 true (.array (.int)) := ⟨R_Mo, F_Mo, 89, t_Mo, rfl, by decide, t_Mo_ok, n_Mo, rfl, rfl, fun _ => rfl⟩
theorem fp_Mo_36 : gi_fp 12 36 true (.array (.boolean)) := ⟨R_Mo, F_Mo, 89, t_Mo, rfl, by decide, t_Mo_ok, n_Mo, rfl, rfl, fun _ => rfl⟩
theorem fp_Mo_37 : gi_fp 12 37 true (.array (.byte)) := ⟨R_Mo, F_Mo, 89, t_Mo, rfl, by decide, t_Mo_ok, n_Mo, rfl, rfl, fun _ => rfl⟩
theorem fp_Mo_38 : gi_fp 12 38 true (.array (.int)) := ⟨R_Mo, F_Mo, 89, t_Mo, rfl, by decide, t_Mo_ok, n_Mo, rfl, rfl, fun _ => rfl⟩
theorem fp_Mo_39 : gi_fp 12 39 true (.array (.boolean)) := ⟨R_Mo, F_Mo, 89, t_Mo, rfl, by decide, t_Mo_ok, n_Mo, rfl, rfl, fun _ => rfl⟩
theorem fp_Mo_40 : gi_fp 12 40 true (.array (.long)) := ⟨R_Mo, F_Mo, 89, t_Mo, rfl, by decide, t_Mo_ok, n_Mo, rfl, rfl, fun _ => rfl⟩
theorem fp_Mo_41 : gi_fp 12 41 true (.array (.long)) := ⟨R_Mo, F_Mo, 89, t_Mo, rfl, by decide, t_Mo_ok, n_Mo, rfl, rfl, fun _ => rfl⟩
theorem fp_Mo_42 : gi_fp 12 42 true (.array (.long)) := ⟨R_Mo, F_Mo, 89, t_Mo, rfl, by decide, t_Mo_ok, n_Mo, rfl, rfl, fun _ => rfl⟩
theorem fp_Mo_43 : gi_fp 12 43 true (.array (.int)) := ⟨R_Mo, F_Mo, 89, t_Mo, rfl, by decide, t_Mo_ok, n_Mo, rfl, rfl, fun _ => rfl⟩
theorem fp_Mo_44 : gi_fp 12 44 true (.array (.boolean)) := ⟨R_Mo, F_Mo, 89, t_Mo, rfl, by decide, t_Mo_ok, n_Mo, rfl, rfl, fun _ => rfl⟩
theorem fp_Mo_45 : gi_fp 12 45 true (.array (.int)) := ⟨R_Mo, F_Mo, 89, t_Mo, rfl, by decide, t_Mo_ok, n_Mo, rfl, rfl, fun _ => rfl⟩
theorem fp_Mo_46 : gi_fp 12 46 false (.int) := ⟨R_Mo, F_Mo, 89, t_Mo, rfl, by decide, t_Mo_ok, n_Mo, rfl, rfl, fun _ => rfl⟩
theorem fp_Mo_47 : gi_fp 12 47 false (.int) := ⟨R_Mo, F_Mo, 89, t_Mo, rfl, by decide, t_Mo_ok, n_Mo, rfl, rfl, fun _ => rfl⟩
theorem fp_Mo_48 : gi_fp 12 48 false (.int) := ⟨R_Mo, F_Mo, 89, t_Mo, rfl, by decide, t_Mo_ok, n_Mo, rfl, rfl, fun _ => rfl⟩
theorem fp_Mo_49 : gi_fp 12 49 false (.int) := ⟨R_Mo, F_Mo, 89, t_Mo, rfl, by decide, t_Mo_ok, n_Mo, rfl, rfl, fun _ => rfl⟩
theorem fp_Mo_50 : gi_fp 12 50 false (.boolean) := ⟨R_Mo, F_Mo, 89, t_Mo, rfl, by decide, t_Mo_ok, n_Mo, rfl, rfl, fun _ => rfl⟩
theorem fp_Mo_51 : gi_fp 12 51 false (.boolean) := ⟨R_Mo, F_Mo, 89, t_Mo, rfl, by decide, t_Mo_ok, n_Mo, rfl, rfl, fun _ => rfl⟩
theorem fp_Mo_52 : gi_fp 12 52 true (.array (.long)) := ⟨R_Mo, F_Mo, 89, t_Mo, rfl, by decide, t_Mo_ok, n_Mo, rfl, rfl, fun _ => rfl⟩
theorem fp_Mo_53 : gi_fp 12 53 true (.array (.long)) := ⟨R_Mo, F_Mo, 89, t_Mo, rfl, by decide, t_Mo_ok, n_Mo, rfl, rfl, fun _ => rfl⟩
theorem fp_Mo_54 : gi_fp 12 54 true (.array (.long)) := ⟨R_Mo, F_Mo, 89, t_Mo, rfl, by decide, t_Mo_ok, n_Mo, rfl, rfl, fun _ => rfl⟩
theorem fp_Mo_55 : gi_fp 12 55 true (.array (.int)) := ⟨R_Mo, F_Mo, 89, t_Mo, rfl, by decide, t_Mo_ok, n_Mo, rfl, rfl, fun _ => rfl⟩
theorem fp_Mo_56 : gi_fp 12 56 true (.array (.boolean)) := ⟨R_Mo, F_Mo, 89, t_Mo, rfl, by decide, t_Mo_ok, n_Mo, rfl, rfl, fun _ => rfl⟩
theorem fp_Mo_57 : gi_fp 12 57 true (.array (.int)) := ⟨R_Mo, F_Mo, 89, t_Mo, rfl, by decide, t_Mo_ok, n_Mo, rfl, rfl, fun _ => rfl⟩
theorem fp_Mo_58 : gi_fp 12 58 false (.int) := ⟨R_Mo, F_Mo, 89, t_Mo, rfl, by decide, t_Mo_ok, n_Mo, rfl, rfl, fun _ => rfl⟩
theorem fp_Mo_59 : gi_fp 12 59 false (.int) := ⟨R_Mo, F_Mo, 89, t_Mo, rfl, by decide, t_Mo_ok, n_Mo, rfl, rfl, fun _ => rfl⟩
theorem fp_Mo_60 : gi_fp 12 60 true (.array (.long)) := ⟨R_Mo, F_Mo, 89, t_Mo, rfl, by decide, t_Mo_ok, n_Mo, rfl, rfl, fun _ => rfl⟩
theorem fp_Mo_61 : gi_fp 12 61 true (.array (.long)) := ⟨R_Mo, F_Mo, 89, t_Mo, rfl, by decide, t_Mo_ok, n_Mo, rfl, rfl, fun _ => rfl⟩
theorem fp_Mo_62 : gi_fp 12 62 true (.array (.long)) := ⟨R_Mo, F_Mo, 89, t_Mo, rfl, by decide, t_Mo_ok, n_Mo, rfl, rfl, fun _ => rfl⟩
theorem fp_Mo_63 : gi_fp 12 63 true (.array (.int)) := ⟨R_Mo, F_Mo, 89, t_Mo, rfl, by decide, t_Mo_ok, n_Mo, rfl, rfl, fun _ => rfl⟩
theorem fp_Mo_64 : gi_fp 12 64 true (.array (.boolean)) := ⟨R_Mo, F_Mo, 89, t_Mo, rfl, by decide, t_Mo_ok, n_Mo, rfl, rfl, fun _ => rfl⟩
theorem fp_Mo_65 : gi_fp 12 65 true (.array (.int)) := ⟨R_Mo, F_Mo, 89, t_Mo, rfl, by decide, t_Mo_ok, n_Mo, rfl, rfl, fun _ => rfl⟩
theorem fp_Mo_66 : gi_fp 12 66 false (.int) := ⟨R_Mo, F_Mo, 89, t_Mo, rfl, by decide, t_Mo_ok, n_Mo, rfl, rfl, fun _ => rfl⟩
theorem fp_Mo_67 : gi_fp 12 67 false (.int) := ⟨R_Mo, F_Mo, 89, t_Mo, rfl, by decide, t_Mo_ok, n_Mo, rfl, rfl, fun _ => rfl⟩
theorem fp_Mo_68 : gi_fp 12 68 true (.array (.int)) := ⟨R_Mo, F_Mo, 89, t_Mo, rfl, by decide, t_Mo_ok, n_Mo, rfl, rfl, fun _ => rfl⟩
theorem fp_Mo_69 : gi_fp 12 69 true (.array (.int)) := ⟨R_Mo, F_Mo, 89, t_Mo, rfl, by decide, t_Mo_ok, n_Mo, rfl, rfl, fun _ => rfl⟩
theorem fp_Mo_70 : gi_fp 12 70 true (.array (.int)) := ⟨R_Mo, F_Mo, 89, t_Mo, rfl, by decide, t_Mo_ok, n_Mo, rfl, rfl, fun _ => rfl⟩
theorem fp_Mo_71 : gi_fp 12 71 true (.array (.int)) := ⟨R_Mo, F_Mo, 89, t_Mo, rfl, by decide, t_Mo_ok, n_Mo, rfl, rfl, fun _ => rfl⟩
theorem fp_Mo_72 : gi_fp 12 72 true (.array (.int)) := ⟨R_Mo, F_Mo, 89, t_Mo, rfl, by decide, t_Mo_ok, n_Mo, rfl, rfl, fun _ => rfl⟩
theorem fp_Mo_73 : gi_fp 12 73 true (.array (.int)) := ⟨R_Mo, F_Mo, 89, t_Mo, rfl, by decide, t_Mo_ok, n_Mo, rfl, rfl, fun _ => rfl⟩
theorem fp_Mo_74 : gi_fp 12 74 true (.array (.int)) := ⟨R_Mo, F_Mo, 89, t_Mo, rfl, by decide, t_Mo_ok, n_Mo, rfl, rfl, fun _ => rfl⟩
theorem fp_Mo_75 : gi_fp 12 75 false (.int) := ⟨R_Mo, F_Mo, 89, t_Mo, rfl, by decide, t_Mo_ok, n_Mo, rfl, rfl, fun _ => rfl⟩
theorem fp_Mo_76 : gi_fp 12 76 false (.int) := ⟨R_Mo, F_Mo, 89, t_Mo, rfl, by decide, t_Mo_ok, n_Mo, rfl, rfl, fun _ => rfl⟩
theorem fp_Mo_77 : gi_fp 12 77 true (.array (.int)) := ⟨R_Mo, F_Mo, 89, t_Mo, rfl, by decide, t_Mo_ok, n_Mo, rfl, rfl, fun _ => rfl⟩
theorem fp_Mo_78 : gi_fp 12 78 true (.array (.int)) := ⟨R_Mo, F_Mo, 89, t_Mo, rfl, by decide, t_Mo_ok, n_Mo, rfl, rfl, fun _ => rfl⟩
theorem fp_Mo_79 : gi_fp 12 79 true (.array (.int)) := ⟨R_Mo, F_Mo, 89, t_Mo, rfl, by decide, t_Mo_ok, n_Mo, rfl, rfl, fun _ => rfl⟩
theorem fp_Mo_80 : gi_fp 12 80 true (.array (.int)) := ⟨R_Mo, F_Mo, 89, t_Mo, rfl, by decide, t_Mo_ok, n_Mo, rfl, rfl, fun _ => rfl⟩
theorem fp_Mo_81 : gi_fp 12 81 false (.int) := ⟨R_Mo, F_Mo, 89, t_Mo, rfl, by decide, t_Mo_ok, n_Mo, rfl, rfl, fun _ => rfl⟩
theorem fp_Mo_82 : gi_fp 12 82 false (.int) := ⟨R_Mo, F_Mo, 89, t_Mo, rfl, by decide, t_Mo_ok, n_Mo, rfl, rfl, fun _ => rfl⟩
theorem fp_Mo_83 : gi_fp 12 83 false (.int) := ⟨R_Mo, F_Mo, 89, t_Mo, rfl, by decide, t_Mo_ok, n_Mo, rfl, rfl, fun _ => rfl⟩
theorem fp_Mo_84 : gi_fp 12 84 false (.int) := ⟨R_Mo, F_Mo, 89, t_Mo, rfl, by decide, t_Mo_ok, n_Mo, rfl, rfl, fun _ => rfl⟩
theorem fp_Mo_85 : gi_fp 12 85 false (.int) := ⟨R_Mo, F_Mo, 89, t_Mo, rfl, by decide, t_Mo_ok, n_Mo, rfl, rfl, fun _ => rfl⟩
theorem fp_Mo_86 : gi_fp 12 86 false (.long) := ⟨R_Mo, F_Mo, 89, t_Mo, rfl, by decide, t_Mo_ok, n_Mo, rfl, rfl, fun _ => rfl⟩
theorem fp_Mo_87 : gi_fp 12 87 false (.int) := ⟨R_Mo, F_Mo, 89, t_Mo, rfl, by decide, t_Mo_ok, n_Mo, rfl, rfl, fun _ => rfl⟩
theorem fp_Mo_88 : gi_fp 12 88 false (.boolean) := ⟨R_Mo, F_Mo, 89, t_Mo, rfl, by decide, t_Mo_ok, n_Mo, rfl, rfl, fun _ => rfl⟩
abbrev z_H : List Value := [.null, .null, .null, .null, .null, .null, .null, .null, .int 0, .int 0]
theorem zz_H : ∀ j, j < 10 → defaultValue (t_H j) = vp_V z_H j := by decide +kernel
abbrev z_Pr : List Value := [.int 0, .null, .null, .null, .null, .null, .null, .null]
theorem zz_Pr : ∀ j, j < 8 → defaultValue (t_Pr j) = vp_V z_Pr j := by decide +kernel
abbrev z_Bu : List Value := [.int 0, .int 0, .int 0, .int 0, .int 0, .null, .null, .null, .null, .null, .null, .null, .null, .int 0, .int 0]
theorem zz_Bu : ∀ j, j < 15 → defaultValue (t_Bu j) = vp_V z_Bu j := by decide +kernel
abbrev z_Fa : List Value := [.null, .null, .null, .null, .null]
theorem zz_Fa : ∀ j, j < 5 → defaultValue (t_Fa j) = vp_V z_Fa j := by decide +kernel
abbrev z_Ro : List Value := [.null, .null, .int 0, .int 0, .int 0]
theorem zz_Ro : ∀ j, j < 5 → defaultValue (t_Ro j) = vp_V z_Ro j := by decide +kernel
abbrev z_Va : List Value := [.int 0, .long 0, .long 0, .long 0, .int 0, .int 0]
theorem zz_Va : ∀ j, j < 6 → defaultValue (t_Va j) = vp_V z_Va j := by decide +kernel
abbrev z_St : List Value := [.int 0, .null, .null, .null, .null, .null, .int 0, .int 0, .int 0, .null, .null, .null, .null, .null, .null, .null, .null, .null, .null]
theorem zz_St : ∀ j, j < 19 → defaultValue (t_St j) = vp_V z_St j := by decide +kernel
abbrev z_Re : List Value := [.null, .null]
theorem zz_Re : ∀ j, j < 2 → defaultValue (t_Re j) = vp_V z_Re j := by decide +kernel
abbrev z_Ju : List Value := [.null, .null]
theorem zz_Ju : ∀ j, j < 2 → defaultValue (t_Ju j) = vp_V z_Ju j := by decide +kernel
abbrev z_Gi : List Value := [.int 0, .null, .null, .null]
theorem zz_Gi : ∀ j, j < 4 → defaultValue (t_Gi j) = vp_V z_Gi j := by decide +kernel
abbrev z_Ma : List Value := [.int 0, .null, .null, .null, .null, .null, .null, .null, .null, .null, .null, .null, .int 0, .int 0, .int 0, .int 0]
theorem zz_Ma : ∀ j, j < 16 → defaultValue (t_Ma j) = vp_V z_Ma j := by decide +kernel
abbrev z_He : List Value := [.int 0, .int 0, .null, .null, .null, .null]
theorem zz_He : ∀ j, j < 6 → defaultValue (t_He j) = vp_V z_He j := by decide +kernel
abbrev z_Mo : List Value := [.int 0, .null, .null, .null, .null, .null, .null, .null, .int 0, .int 0, .int 0, .int 0, .null, .null, .null, .null, .null, .null, .int 0, .int 0, .int 0, .int 0, .long 0, .long 0, .long 0, .long 0, .long 0, .long 0, .long 0, .int 0, .int 0, .null, .null, .null, .null, .null, .null, .null, .null, .null, .null, .null, .null, .null, .null, .null, .int 0, .int 0, .int 0, .int 0, .int 0, .int 0, .null, .null, .null, .null, .null, .null, .int 0, .int 0, .null, .null, .null, .null, .null, .null, .int 0, .int 0, .null, .null, .null, .null, .null, .null, .null, .int 0, .int 0, .null, .null, .null, .null, .int 0, .int 0, .int 0, .int 0, .int 0, .long 0, .int 0, .int 0]
theorem zz_Mo : ∀ j, j < 89 → defaultValue (t_Mo j) = vp_V z_Mo j := by decide +kernel
theorem cl_La_7 : Cond.classLink R_La 7 R_H ∈ gi_tb := (gi_m1 16 rfl rfl)
theorem nc_La_7 : gi_nc R_La 7 0 10 z_H := ⟨R_H, F_H, t_H, rfl, i_H, t_H_ok, cl_La_7, (gi_m1 17 rfl rfl), (gi_m1 1 rfl rfl), zz_H⟩
theorem cl_H_9 : Cond.classLink R_H 9 R_Pr ∈ gi_tb := (gi_m1 24 rfl rfl)
theorem nc_H_9 : gi_nc R_H 9 1 8 z_Pr := ⟨R_Pr, F_Pr, t_Pr, rfl, i_Pr, t_Pr_ok, cl_H_9, (gi_m1 25 rfl rfl), (gi_m1 2 rfl rfl), zz_Pr⟩
theorem cl_H_16 : Cond.classLink R_H 16 R_Bu ∈ gi_tb := (gi_m1 58 rfl rfl)
theorem nc_H_16 : gi_nc R_H 16 2 15 z_Bu := ⟨R_Bu, F_Bu, t_Bu, rfl, i_Bu, t_Bu_ok, cl_H_16, (gi_m1 59 rfl rfl), (gi_m1 3 rfl rfl), zz_Bu⟩
theorem cl_H_25 : Cond.classLink R_H 25 R_Fa ∈ gi_tb := (gi_m1 116 rfl rfl)
theorem nc_H_25 : gi_nc R_H 25 3 5 z_Fa := ⟨R_Fa, F_Fa, t_Fa, rfl, i_Fa, t_Fa_ok, cl_H_25, (gi_m1 117 rfl rfl), (gi_m1 4 rfl rfl), zz_Fa⟩
theorem cl_Fa_9 : Cond.classLink R_Fa 9 R_Ro ∈ gi_tb := (gi_m1 122 rfl rfl)
theorem nc_Fa_9 : gi_nc R_Fa 9 4 5 z_Ro := ⟨R_Ro, F_Ro, t_Ro, rfl, i_Ro, t_Ro_ok, cl_Fa_9, (gi_m1 124 rfl rfl), (gi_m1 5 rfl rfl), zz_Ro⟩
theorem cl_Ro_9 : Cond.classLink R_Ro 9 R_Va ∈ gi_tb := (gi_m1 129 rfl rfl)
theorem nc_Ro_9 : gi_nc R_Ro 9 5 6 z_Va := ⟨R_Va, F_Va, t_Va, rfl, i_Va, t_Va_ok, cl_Ro_9, (gi_m1 131 rfl rfl), (gi_m1 6 rfl rfl), zz_Va⟩
theorem cl_H_35 : Cond.classLink R_H 35 R_St ∈ gi_tb := (gi_m1 213 rfl rfl)
theorem nc_H_35 : gi_nc R_H 35 6 19 z_St := ⟨R_St, F_St, t_St, rfl, i_St, t_St_ok, cl_H_35, (gi_m1 214 rfl rfl), (gi_m1 7 rfl rfl), zz_St⟩
theorem cl_St_9 : Cond.classLink R_St 9 R_Re ∈ gi_tb := (gi_m1 219 rfl rfl)
theorem nc_St_9 : gi_nc R_St 9 7 2 z_Re := ⟨R_Re, F_Re, t_Re, rfl, i_Re, t_Re_ok, cl_St_9, (gi_m1 220 rfl rfl), (gi_m1 8 rfl rfl), zz_Re⟩
theorem cl_Re_9 : Cond.classLink R_Re 9 R_Va ∈ gi_tb := (gi_m1 225 rfl rfl)
theorem nc_Re_9 : gi_nc R_Re 9 5 6 z_Va := ⟨R_Va, F_Va, t_Va, rfl, i_Va, t_Va_ok, cl_Re_9, (gi_m1 131 rfl rfl), (gi_m1 6 rfl rfl), zz_Va⟩
theorem cl_St_18 : Cond.classLink R_St 18 R_Ro ∈ gi_tb := (gi_m1 234 rfl rfl)
theorem nc_St_18 : gi_nc R_St 18 4 5 z_Ro := ⟨R_Ro, F_Ro, t_Ro, rfl, i_Ro, t_Ro_ok, cl_St_18, (gi_m1 124 rfl rfl), (gi_m1 5 rfl rfl), zz_Ro⟩
theorem cl_St_36 : Cond.classLink R_St 36 R_Va ∈ gi_tb := (gi_m1 236 rfl rfl)
theorem nc_St_36 : gi_nc R_St 36 5 6 z_Va := ⟨R_Va, F_Va, t_Va, rfl, i_Va, t_Va_ok, cl_St_36, (gi_m1 131 rfl rfl), (gi_m1 6 rfl rfl), zz_Va⟩
theorem cl_H_44 : Cond.classLink R_H 44 R_Ju ∈ gi_tb := (gi_m2 57 rfl rfl)
theorem nc_H_44 : gi_nc R_H 44 8 2 z_Ju := ⟨R_Ju, F_Ju, t_Ju, rfl, i_Ju, t_Ju_ok, cl_H_44, (gi_m2 58 rfl rfl), (gi_m1 9 rfl rfl), zz_Ju⟩
theorem cl_H_53 : Cond.classLink R_H 53 R_Gi ∈ gi_tb := (gi_m2 70 rfl rfl)
theorem nc_H_53 : gi_nc R_H 53 9 4 z_Gi := ⟨R_Gi, F_Gi, t_Gi, rfl, i_Gi, t_Gi_ok, cl_H_53, (gi_m2 71 rfl rfl), (gi_m1 10 rfl rfl), zz_Gi⟩
theorem cl_H_60 : Cond.classLink R_H 60 R_Ma ∈ gi_tb := (gi_m2 90 rfl rfl)
theorem nc_H_60 : gi_nc R_H 60 10 16 z_Ma := ⟨R_Ma, F_Ma, t_Ma, rfl, i_Ma, t_Ma_ok, cl_H_60, (gi_m2 91 rfl rfl), (gi_m1 11 rfl rfl), zz_Ma⟩
theorem cl_Ma_15 : Cond.classLink R_Ma 15 R_He ∈ gi_tb := (gi_m2 96 rfl rfl)
theorem nc_Ma_15 : gi_nc R_Ma 15 11 6 z_He := ⟨R_He, F_He, t_He, rfl, i_He, t_He_ok, cl_Ma_15, (gi_m2 97 rfl rfl), (gi_m1 12 rfl rfl), zz_He⟩
theorem cl_La_10 : Cond.classLink R_La 10 R_Mo ∈ gi_tb := (gi_m6 20 rfl rfl)
theorem nc_La_10 : gi_nc R_La 10 12 89 z_Mo := ⟨R_Mo, F_Mo, t_Mo, rfl, i_Mo, t_Mo_ok, cl_La_10, (gi_m6 21 rfl rfl), (gi_m1 13 rfl rfl), zz_Mo⟩
abbrev b_H_init : ByteArray := prog_1_method_1_code
theorem my_H_init : gi_my y_H_init b_H_init 1 none 0 := ⟨(gi_m1 20 rfl rfl), (gi_m1 1 rfl rfl), by decide, by decide, by decide +kernel⟩
theorem im_H_init : Cond.instanceMethod y_H_init ∈ gi_tb := (gi_m1 19 rfl rfl)
abbrev b_Pr_init : ByteArray := prog_8_method_1_code
theorem my_Pr_init : gi_my y_Pr_init b_Pr_init 1 none 0 := ⟨(gi_m1 28 rfl rfl), (gi_m1 2 rfl rfl), by decide, by decide, by decide +kernel⟩
theorem im_Pr_init : Cond.instanceMethod y_Pr_init ∈ gi_tb := (gi_m1 27 rfl rfl)
abbrev b_Bu_init : ByteArray := prog_2_method_1_code
theorem my_Bu_init : gi_my y_Bu_init b_Bu_init 2 none 1 := ⟨(gi_m1 62 rfl rfl), (gi_m1 3 rfl rfl), by decide, by decide, by decide +kernel⟩
theorem im_Bu_init : Cond.instanceMethod y_Bu_init ∈ gi_tb := (gi_m1 61 rfl rfl)
abbrev b_Fa_init : ByteArray := prog_3_method_1_code
theorem my_Fa_init : gi_my y_Fa_init b_Fa_init 2 none 0 := ⟨(gi_m1 120 rfl rfl), (gi_m1 4 rfl rfl), by decide, by decide, by decide +kernel⟩
theorem im_Fa_init : Cond.instanceMethod y_Fa_init ∈ gi_tb := (gi_m1 119 rfl rfl)
abbrev b_Ro_init : ByteArray := prog_10_method_1_code
theorem my_Ro_init : gi_my y_Ro_init b_Ro_init 3 none 1 := ⟨(gi_m1 127 rfl rfl), (gi_m1 5 rfl rfl), by decide, by decide, by decide +kernel⟩
theorem im_Ro_init : Cond.instanceMethod y_Ro_init ∈ gi_tb := (gi_m1 126 rfl rfl)
abbrev b_Va_init : ByteArray := prog_12_method_1_code
theorem my_Va_init : gi_my y_Va_init b_Va_init 1 none 0 := ⟨(gi_m1 134 rfl rfl), (gi_m1 6 rfl rfl), by decide, by decide, by decide +kernel⟩
theorem im_Va_init : Cond.instanceMethod y_Va_init ∈ gi_tb := (gi_m1 133 rfl rfl)
abbrev b_St_init : ByteArray := prog_11_method_1_code
theorem my_St_init : gi_my y_St_init b_St_init 4 none 3 := ⟨(gi_m1 217 rfl rfl), (gi_m1 7 rfl rfl), by decide, by decide, by decide +kernel⟩
theorem im_St_init : Cond.instanceMethod y_St_init ∈ gi_tb := (gi_m1 216 rfl rfl)
abbrev b_Re_init : ByteArray := prog_9_method_1_code
theorem my_Re_init : gi_my y_Re_init b_Re_init 1 none 0 := ⟨(gi_m1 223 rfl rfl), (gi_m1 8 rfl rfl), by decide, by decide, by decide +kernel⟩
theorem im_Re_init : Cond.instanceMethod y_Re_init ∈ gi_tb := (gi_m1 222 rfl rfl)
abbrev b_Ju_init : ByteArray := prog_6_method_1_code
theorem my_Ju_init : gi_my y_Ju_init b_Ju_init 3 none 2 := ⟨(gi_m2 61 rfl rfl), (gi_m1 9 rfl rfl), by decide, by decide, by decide +kernel⟩
theorem im_Ju_init : Cond.instanceMethod y_Ju_init ∈ gi_tb := (gi_m2 60 rfl rfl)
abbrev b_Gi_init : ByteArray := prog_4_method_1_code
theorem my_Gi_init : gi_my y_Gi_init b_Gi_init 1 none 0 := ⟨(gi_m2 74 rfl rfl), (gi_m1 10 rfl rfl), by decide, by decide, by decide +kernel⟩
theorem im_Gi_init : Cond.instanceMethod y_Gi_init ∈ gi_tb := (gi_m2 73 rfl rfl)
abbrev b_Ma_init : ByteArray := prog_7_method_1_code
theorem my_Ma_init : gi_my y_Ma_init b_Ma_init 5 none 4 := ⟨(gi_m2 94 rfl rfl), (gi_m1 11 rfl rfl), by decide, by decide, by decide +kernel⟩
theorem im_Ma_init : Cond.instanceMethod y_Ma_init ∈ gi_tb := (gi_m2 93 rfl rfl)
abbrev b_He_init : ByteArray := prog_5_method_1_code
theorem my_He_init : gi_my y_He_init b_He_init 1 none 0 := ⟨(gi_m2 100 rfl rfl), (gi_m1 12 rfl rfl), by decide, by decide, by decide +kernel⟩
theorem im_He_init : Cond.instanceMethod y_He_init ∈ gi_tb := (gi_m2 99 rfl rfl)
abbrev b_H_method : ByteArray := prog_1_method_2_code
theorem my_H_method : gi_my y_H_method b_H_method 6 (some .int) 4 := ⟨(gi_m2 207 rfl rfl), (gi_m1 1 rfl rfl), by decide, by decide, by decide +kernel⟩
theorem im_H_method : Cond.instanceMethod y_H_method ∈ gi_tb ∧ Cond.selects y_H_method.cls y_H_method y_H_method ∈ gi_tb := ⟨(gi_m2 205 rfl rfl), (gi_m2 206 rfl rfl)⟩
abbrev b_Pr_addMethod : ByteArray := prog_8_method_2_code
theorem my_Pr_addMethod : gi_my y_Pr_addMethod b_Pr_addMethod 5 (some .int) 4 := ⟨(gi_m2 211 rfl rfl), (gi_m1 2 rfl rfl), by decide, by decide, by decide +kernel⟩
theorem im_Pr_addMethod : Cond.instanceMethod y_Pr_addMethod ∈ gi_tb ∧ Cond.selects y_Pr_addMethod.cls y_Pr_addMethod y_Pr_addMethod ∈ gi_tb := ⟨(gi_m2 209 rfl rfl), (gi_m2 210 rfl rfl)⟩
abbrev b_H_takeAway : ByteArray := prog_1_method_24_code
theorem my_H_takeAway : gi_my y_H_takeAway b_H_takeAway 1 none 0 := ⟨(gi_m2 215 rfl rfl), (gi_m1 1 rfl rfl), by decide, by decide, by decide +kernel⟩
theorem im_H_takeAway : Cond.instanceMethod y_H_takeAway ∈ gi_tb ∧ Cond.selects y_H_takeAway.cls y_H_takeAway y_H_takeAway ∈ gi_tb := ⟨(gi_m2 214 rfl rfl), gi_ms 0 rfl rfl⟩
abbrev b_H_code : ByteArray := prog_1_method_3_code
theorem my_H_code : gi_my y_H_code b_H_code 5 (some .int) 3 := ⟨(gi_m2 219 rfl rfl), (gi_m1 1 rfl rfl), by decide, by decide, by decide +kernel⟩
theorem im_H_code : Cond.instanceMethod y_H_code ∈ gi_tb ∧ Cond.selects y_H_code.cls y_H_code y_H_code ∈ gi_tb := ⟨(gi_m2 217 rfl rfl), (gi_m2 218 rfl rfl)⟩
abbrev b_Pr_addInstruction : ByteArray := prog_8_method_3_code
theorem my_Pr_addInstruction : gi_my y_Pr_addInstruction b_Pr_addInstruction 5 (some .int) 3 := ⟨(gi_m2 223 rfl rfl), (gi_m1 2 rfl rfl), by decide, by decide, by decide +kernel⟩
theorem im_Pr_addInstruction : Cond.instanceMethod y_Pr_addInstruction ∈ gi_tb ∧ Cond.selects y_Pr_addInstruction.cls y_Pr_addInstruction y_Pr_addInstruction ∈ gi_tb := ⟨(gi_m2 221 rfl rfl), (gi_m2 222 rfl rfl)⟩
abbrev b_Pr_hasMethod : ByteArray := prog_8_method_5_code
theorem my_Pr_hasMethod : gi_my y_Pr_hasMethod b_Pr_hasMethod 2 (some .boolean) 1 := ⟨(gi_m2 227 rfl rfl), (gi_m1 2 rfl rfl), by decide, by decide, by decide +kernel⟩
theorem im_Pr_hasMethod : Cond.instanceMethod y_Pr_hasMethod ∈ gi_tb ∧ Cond.selects y_Pr_hasMethod.cls y_Pr_hasMethod y_Pr_hasMethod ∈ gi_tb := ⟨(gi_m2 225 rfl rfl), (gi_m2 226 rfl rfl)⟩
abbrev b_H_wipe : ByteArray := prog_1_method_4_code
theorem my_H_wipe : gi_my y_H_wipe b_H_wipe 3 (some .int) 1 := ⟨(gi_m2 231 rfl rfl), (gi_m1 1 rfl rfl), by decide, by decide, by decide +kernel⟩
theorem im_H_wipe : Cond.instanceMethod y_H_wipe ∈ gi_tb ∧ Cond.selects y_H_wipe.cls y_H_wipe y_H_wipe ∈ gi_tb := ⟨(gi_m2 229 rfl rfl), (gi_m2 230 rfl rfl)⟩
abbrev b_Pr_clear : ByteArray := prog_8_method_4_code
theorem my_Pr_clear : gi_my y_Pr_clear b_Pr_clear 3 (some .int) 1 := ⟨(gi_m2 235 rfl rfl), (gi_m1 2 rfl rfl), by decide, by decide, by decide +kernel⟩
theorem im_Pr_clear : Cond.instanceMethod y_Pr_clear ∈ gi_tb ∧ Cond.selects y_Pr_clear.cls y_Pr_clear y_Pr_clear ∈ gi_tb := ⟨(gi_m2 233 rfl rfl), (gi_m2 234 rfl rfl)⟩
abbrev b_H_build : ByteArray := prog_1_method_5_code
theorem my_H_build : gi_my y_H_build b_H_build 1 (some .int) 0 := ⟨(gi_m2 239 rfl rfl), (gi_m1 1 rfl rfl), by decide, by decide, by decide +kernel⟩
theorem im_H_build : Cond.instanceMethod y_H_build ∈ gi_tb ∧ Cond.selects y_H_build.cls y_H_build y_H_build ∈ gi_tb := ⟨(gi_m2 237 rfl rfl), (gi_m2 238 rfl rfl)⟩
abbrev b_Bu_make : ByteArray := prog_2_method_2_code
theorem my_Bu_make : gi_my y_Bu_make b_Bu_make 2 (some .int) 0 := ⟨(gi_m3 3 rfl rfl), (gi_m1 3 rfl rfl), by decide, by decide, by decide +kernel⟩
theorem im_Bu_make : Cond.instanceMethod y_Bu_make ∈ gi_tb ∧ Cond.selects y_Bu_make.cls y_Bu_make y_Bu_make ∈ gi_tb := ⟨(gi_m3 1 rfl rfl), (gi_m3 2 rfl rfl)⟩
abbrev b_Bu_findOperandFault : ByteArray := prog_2_method_8_code
theorem my_Bu_findOperandFault : gi_my y_Bu_findOperandFault b_Bu_findOperandFault 3 none 0 := ⟨(gi_m3 7 rfl rfl), (gi_m1 3 rfl rfl), by decide, by decide, by decide +kernel⟩
theorem im_Bu_findOperandFault : Cond.instanceMethod y_Bu_findOperandFault ∈ gi_tb ∧ Cond.selects y_Bu_findOperandFault.cls y_Bu_findOperandFault y_Bu_findOperandFault ∈ gi_tb := ⟨(gi_m3 6 rfl rfl), gi_ms 1 rfl rfl⟩
abbrev b_Pr_lengthOf : ByteArray := prog_8_method_11_code
theorem my_Pr_lengthOf : gi_my y_Pr_lengthOf b_Pr_lengthOf 2 (some .int) 1 := ⟨(gi_m3 11 rfl rfl), (gi_m1 2 rfl rfl), by decide, by decide, by decide +kernel⟩
theorem im_Pr_lengthOf : Cond.instanceMethod y_Pr_lengthOf ∈ gi_tb ∧ Cond.selects y_Pr_lengthOf.cls y_Pr_lengthOf y_Pr_lengthOf ∈ gi_tb := ⟨(gi_m3 9 rfl rfl), (gi_m3 10 rfl rfl)⟩
abbrev b_Pr_opAt : ByteArray := prog_8_method_12_code
theorem my_Pr_opAt : gi_my y_Pr_opAt b_Pr_opAt 3 (some .int) 2 := ⟨(gi_m3 15 rfl rfl), (gi_m1 2 rfl rfl), by decide, by decide, by decide +kernel⟩
theorem im_Pr_opAt : Cond.instanceMethod y_Pr_opAt ∈ gi_tb ∧ Cond.selects y_Pr_opAt.cls y_Pr_opAt y_Pr_opAt ∈ gi_tb := ⟨(gi_m3 13 rfl rfl), (gi_m3 14 rfl rfl)⟩
abbrev b_Pr_hasPlace : ByteArray := prog_8_method_6_code
theorem my_Pr_hasPlace : gi_my y_Pr_hasPlace b_Pr_hasPlace 3 (some .boolean) 2 := ⟨(gi_m3 19 rfl rfl), (gi_m1 2 rfl rfl), by decide, by decide, by decide +kernel⟩
theorem im_Pr_hasPlace : Cond.instanceMethod y_Pr_hasPlace ∈ gi_tb ∧ Cond.selects y_Pr_hasPlace.cls y_Pr_hasPlace y_Pr_hasPlace ∈ gi_tb := ⟨(gi_m3 17 rfl rfl), (gi_m3 18 rfl rfl)⟩
abbrev b_Pr_operandAt : ByteArray := prog_8_method_13_code
theorem my_Pr_operandAt : gi_my y_Pr_operandAt b_Pr_operandAt 3 (some .int) 2 := ⟨(gi_m3 23 rfl rfl), (gi_m1 2 rfl rfl), by decide, by decide, by decide +kernel⟩
theorem im_Pr_operandAt : Cond.instanceMethod y_Pr_operandAt ∈ gi_tb ∧ Cond.selects y_Pr_operandAt.cls y_Pr_operandAt y_Pr_operandAt ∈ gi_tb := ⟨(gi_m3 21 rfl rfl), (gi_m3 22 rfl rfl)⟩
abbrev b_Pr_hasOperand : ByteArray := prog_8_method_14_code
theorem my_Pr_hasOperand : gi_my y_Pr_hasOperand b_Pr_hasOperand 4 (some .boolean) 3 := ⟨(gi_m3 27 rfl rfl), (gi_m1 2 rfl rfl), by decide, by decide, by decide +kernel⟩
theorem im_Pr_hasOperand : Cond.instanceMethod y_Pr_hasOperand ∈ gi_tb ∧ Cond.selects y_Pr_hasOperand.cls y_Pr_hasOperand y_Pr_hasOperand ∈ gi_tb := ⟨(gi_m3 25 rfl rfl), (gi_m3 26 rfl rfl)⟩
abbrev b_Pr_localsOf : ByteArray := prog_8_method_8_code
theorem my_Pr_localsOf : gi_my y_Pr_localsOf b_Pr_localsOf 2 (some .int) 1 := ⟨(gi_m3 31 rfl rfl), (gi_m1 2 rfl rfl), by decide, by decide, by decide +kernel⟩
theorem im_Pr_localsOf : Cond.instanceMethod y_Pr_localsOf ∈ gi_tb ∧ Cond.selects y_Pr_localsOf.cls y_Pr_localsOf y_Pr_localsOf ∈ gi_tb := ⟨(gi_m3 29 rfl rfl), (gi_m3 30 rfl rfl)⟩
abbrev b_Bu_faultIs : ByteArray := prog_2_method_7_code
theorem my_Bu_faultIs : gi_my y_Bu_faultIs b_Bu_faultIs 4 none 3 := ⟨(gi_m3 35 rfl rfl), (gi_m1 3 rfl rfl), by decide, by decide, by decide +kernel⟩
theorem im_Bu_faultIs : Cond.instanceMethod y_Bu_faultIs ∈ gi_tb ∧ Cond.selects y_Bu_faultIs.cls y_Bu_faultIs y_Bu_faultIs ∈ gi_tb := ⟨(gi_m3 34 rfl rfl), gi_ms 2 rfl rfl⟩
abbrev b_Bu_shapeMethod : ByteArray := prog_2_method_9_code
theorem my_Bu_shapeMethod : gi_my y_Bu_shapeMethod b_Bu_shapeMethod 5 none 1 := ⟨(gi_m3 39 rfl rfl), (gi_m1 3 rfl rfl), by decide, by decide, by decide +kernel⟩
theorem im_Bu_shapeMethod : Cond.instanceMethod y_Bu_shapeMethod ∈ gi_tb ∧ Cond.selects y_Bu_shapeMethod.cls y_Bu_shapeMethod y_Bu_shapeMethod ∈ gi_tb := ⟨(gi_m3 38 rfl rfl), gi_ms 3 rfl rfl⟩
abbrev b_Bu_lookAt : ByteArray := prog_2_method_11_code
theorem my_Bu_lookAt : gi_my y_Bu_lookAt b_Bu_lookAt 6 none 2 := ⟨(gi_m3 43 rfl rfl), (gi_m1 3 rfl rfl), by decide, by decide, by decide +kernel⟩
theorem im_Bu_lookAt : Cond.instanceMethod y_Bu_lookAt ∈ gi_tb ∧ Cond.selects y_Bu_lookAt.cls y_Bu_lookAt y_Bu_lookAt ∈ gi_tb := ⟨(gi_m3 42 rfl rfl), gi_ms 4 rfl rfl⟩
abbrev b_Bu_takeShape : ByteArray := prog_2_method_14_code
theorem my_Bu_takeShape : gi_my y_Bu_takeShape b_Bu_takeShape 6 (some .boolean) 3 := ⟨(gi_m3 47 rfl rfl), (gi_m1 3 rfl rfl), by decide, by decide, by decide +kernel⟩
theorem im_Bu_takeShape : Cond.instanceMethod y_Bu_takeShape ∈ gi_tb ∧ Cond.selects y_Bu_takeShape.cls y_Bu_takeShape y_Bu_takeShape ∈ gi_tb := ⟨(gi_m3 46 rfl rfl), gi_ms 5 rfl rfl⟩
abbrev b_Pr_holdsArray : ByteArray := prog_8_method_9_code
theorem my_Pr_holdsArray : gi_my y_Pr_holdsArray b_Pr_holdsArray 3 (some .boolean) 2 := ⟨(gi_m3 51 rfl rfl), (gi_m1 2 rfl rfl), by decide, by decide, by decide +kernel⟩
theorem im_Pr_holdsArray : Cond.instanceMethod y_Pr_holdsArray ∈ gi_tb ∧ Cond.selects y_Pr_holdsArray.cls y_Pr_holdsArray y_Pr_holdsArray ∈ gi_tb := ⟨(gi_m3 49 rfl rfl), (gi_m3 50 rfl rfl)⟩
abbrev b_Bu_takeKind : ByteArray := prog_2_method_12_code
theorem my_Bu_takeKind : gi_my y_Bu_takeKind b_Bu_takeKind 3 (some .boolean) 1 := ⟨(gi_m3 55 rfl rfl), (gi_m1 3 rfl rfl), by decide, by decide, by decide +kernel⟩
theorem im_Bu_takeKind : Cond.instanceMethod y_Bu_takeKind ∈ gi_tb ∧ Cond.selects y_Bu_takeKind.cls y_Bu_takeKind y_Bu_takeKind ∈ gi_tb := ⟨(gi_m3 54 rfl rfl), gi_ms 6 rfl rfl⟩
abbrev b_Pr_resultSort : ByteArray := prog_8_method_10_code
theorem my_Pr_resultSort : gi_my y_Pr_resultSort b_Pr_resultSort 2 (some .int) 1 := ⟨(gi_m3 59 rfl rfl), (gi_m1 2 rfl rfl), by decide, by decide, by decide +kernel⟩
theorem im_Pr_resultSort : Cond.instanceMethod y_Pr_resultSort ∈ gi_tb ∧ Cond.selects y_Pr_resultSort.cls y_Pr_resultSort y_Pr_resultSort ∈ gi_tb := ⟨(gi_m3 57 rfl rfl), (gi_m3 58 rfl rfl)⟩
abbrev b_Pr_argumentsOf : ByteArray := prog_8_method_7_code
theorem my_Pr_argumentsOf : gi_my y_Pr_argumentsOf b_Pr_argumentsOf 2 (some .int) 1 := ⟨(gi_m3 63 rfl rfl), (gi_m1 2 rfl rfl), by decide, by decide, by decide +kernel⟩
theorem im_Pr_argumentsOf : Cond.instanceMethod y_Pr_argumentsOf ∈ gi_tb ∧ Cond.selects y_Pr_argumentsOf.cls y_Pr_argumentsOf y_Pr_argumentsOf ∈ gi_tb := ⟨(gi_m3 61 rfl rfl), (gi_m3 62 rfl rfl)⟩
abbrev b_Bu_putShape : ByteArray := prog_2_method_15_code
theorem my_Bu_putShape : gi_my y_Bu_putShape b_Bu_putShape 4 none 3 := ⟨(gi_m3 69 rfl rfl), (gi_m1 3 rfl rfl), by decide, by decide, by decide +kernel⟩
theorem im_Bu_putShape : Cond.instanceMethod y_Bu_putShape ∈ gi_tb ∧ Cond.selects y_Bu_putShape.cls y_Bu_putShape y_Bu_putShape ∈ gi_tb := ⟨(gi_m3 68 rfl rfl), gi_ms 7 rfl rfl⟩
abbrev b_Bu_putKind : ByteArray := prog_2_method_13_code
theorem my_Bu_putKind : gi_my y_Bu_putKind b_Bu_putKind 2 none 1 := ⟨(gi_m3 73 rfl rfl), (gi_m1 3 rfl rfl), by decide, by decide, by decide +kernel⟩
theorem im_Bu_putKind : Cond.instanceMethod y_Bu_putKind ∈ gi_tb ∧ Cond.selects y_Bu_putKind.cls y_Bu_putKind y_Bu_putKind ∈ gi_tb := ⟨(gi_m3 72 rfl rfl), gi_ms 8 rfl rfl⟩
abbrev b_Bu_swapKinds : ByteArray := prog_2_method_16_code
theorem my_Bu_swapKinds : gi_my y_Bu_swapKinds b_Bu_swapKinds 3 none 0 := ⟨(gi_m3 77 rfl rfl), (gi_m1 3 rfl rfl), by decide, by decide, by decide +kernel⟩
theorem im_Bu_swapKinds : Cond.instanceMethod y_Bu_swapKinds ∈ gi_tb ∧ Cond.selects y_Bu_swapKinds.cls y_Bu_swapKinds y_Bu_swapKinds ∈ gi_tb := ⟨(gi_m3 76 rfl rfl), gi_ms 9 rfl rfl⟩
abbrev b_Bu_shapeComes : ByteArray := prog_2_method_17_code
theorem my_Bu_shapeComes : gi_my y_Bu_shapeComes b_Bu_shapeComes 5 none 3 := ⟨(gi_m3 81 rfl rfl), (gi_m1 3 rfl rfl), by decide, by decide, by decide +kernel⟩
theorem im_Bu_shapeComes : Cond.instanceMethod y_Bu_shapeComes ∈ gi_tb ∧ Cond.selects y_Bu_shapeComes.cls y_Bu_shapeComes y_Bu_shapeComes ∈ gi_tb := ⟨(gi_m3 80 rfl rfl), gi_ms 10 rfl rfl⟩
abbrev b_Bu_leastUnlooked : ByteArray := prog_2_method_10_code
theorem my_Bu_leastUnlooked : gi_my y_Bu_leastUnlooked b_Bu_leastUnlooked 4 (some .int) 2 := ⟨(gi_m3 86 rfl rfl), (gi_m1 3 rfl rfl), by decide, by decide, by decide +kernel⟩
theorem im_Bu_leastUnlooked : Cond.instanceMethod y_Bu_leastUnlooked ∈ gi_tb ∧ Cond.selects y_Bu_leastUnlooked.cls y_Bu_leastUnlooked y_Bu_leastUnlooked ∈ gi_tb := ⟨(gi_m3 85 rfl rfl), gi_ms 11 rfl rfl⟩
abbrev b_Bu_findSites : ByteArray := prog_2_method_18_code
theorem my_Bu_findSites : gi_my y_Bu_findSites b_Bu_findSites 4 none 0 := ⟨(gi_m3 90 rfl rfl), (gi_m1 3 rfl rfl), by decide, by decide, by decide +kernel⟩
theorem im_Bu_findSites : Cond.instanceMethod y_Bu_findSites ∈ gi_tb ∧ Cond.selects y_Bu_findSites.cls y_Bu_findSites y_Bu_findSites ∈ gi_tb := ⟨(gi_m3 89 rfl rfl), gi_ms 12 rfl rfl⟩
abbrev b_Bu_findWidePlaces : ByteArray := prog_2_method_19_code
theorem my_Bu_findWidePlaces : gi_my y_Bu_findWidePlaces b_Bu_findWidePlaces 5 none 0 := ⟨(gi_m3 94 rfl rfl), (gi_m1 3 rfl rfl), by decide, by decide, by decide +kernel⟩
theorem im_Bu_findWidePlaces : Cond.instanceMethod y_Bu_findWidePlaces ∈ gi_tb ∧ Cond.selects y_Bu_findWidePlaces.cls y_Bu_findWidePlaces y_Bu_findWidePlaces ∈ gi_tb := ⟨(gi_m3 93 rfl rfl), gi_ms 13 rfl rfl⟩
abbrev b_H_faultAt : ByteArray := prog_1_method_6_code
theorem my_H_faultAt : gi_my y_H_faultAt b_H_faultAt 2 (some .int) 1 := ⟨(gi_m3 98 rfl rfl), (gi_m1 1 rfl rfl), by decide, by decide, by decide +kernel⟩
theorem im_H_faultAt : Cond.instanceMethod y_H_faultAt ∈ gi_tb ∧ Cond.selects y_H_faultAt.cls y_H_faultAt y_H_faultAt ∈ gi_tb := ⟨(gi_m3 96 rfl rfl), (gi_m3 97 rfl rfl)⟩
abbrev b_H_analyze : ByteArray := prog_1_method_7_code
theorem my_H_analyze : gi_my y_H_analyze b_H_analyze 4 (some .int) 1 := ⟨(gi_m3 102 rfl rfl), (gi_m1 1 rfl rfl), by decide, by decide, by decide +kernel⟩
theorem im_H_analyze : Cond.instanceMethod y_H_analyze ∈ gi_tb ∧ Cond.selects y_H_analyze.cls y_H_analyze y_H_analyze ∈ gi_tb := ⟨(gi_m3 100 rfl rfl), (gi_m3 101 rfl rfl)⟩
abbrev b_Fa_begin : ByteArray := prog_3_method_2_code
theorem my_Fa_begin : gi_my y_Fa_begin b_Fa_begin 2 none 0 := ⟨(gi_m3 106 rfl rfl), (gi_m1 4 rfl rfl), by decide, by decide, by decide +kernel⟩
theorem im_Fa_begin : Cond.instanceMethod y_Fa_begin ∈ gi_tb ∧ Cond.selects y_Fa_begin.cls y_Fa_begin y_Fa_begin ∈ gi_tb := ⟨(gi_m3 104 rfl rfl), (gi_m3 105 rfl rfl)⟩
abbrev b_Ro_empty : ByteArray := prog_10_method_6_code
theorem my_Ro_empty : gi_my y_Ro_empty b_Ro_empty 1 none 0 := ⟨(gi_m3 110 rfl rfl), (gi_m1 5 rfl rfl), by decide, by decide, by decide +kernel⟩
theorem im_Ro_empty : Cond.instanceMethod y_Ro_empty ∈ gi_tb ∧ Cond.selects y_Ro_empty.cls y_Ro_empty y_Ro_empty ∈ gi_tb := ⟨(gi_m3 108 rfl rfl), (gi_m3 109 rfl rfl)⟩
abbrev b_Ro_push : ByteArray := prog_10_method_8_code
theorem my_Ro_push : gi_my y_Ro_push b_Ro_push 1 (some (.object "AnalysisHouse$Value")) 0 := ⟨(gi_m3 114 rfl rfl), (gi_m1 5 rfl rfl), by decide, by decide, by decide +kernel⟩
theorem im_Ro_push : Cond.instanceMethod y_Ro_push ∈ gi_tb ∧ Cond.selects y_Ro_push.cls y_Ro_push y_Ro_push ∈ gi_tb := ⟨(gi_m3 112 rfl rfl), (gi_m3 113 rfl rfl)⟩
abbrev b_Ro_markTop : ByteArray := prog_10_method_5_code
theorem my_Ro_markTop : gi_my y_Ro_markTop b_Ro_markTop 2 none 1 := ⟨(gi_m3 118 rfl rfl), (gi_m1 5 rfl rfl), by decide, by decide, by decide +kernel⟩
theorem im_Ro_markTop : Cond.instanceMethod y_Ro_markTop ∈ gi_tb ∧ Cond.selects y_Ro_markTop.cls y_Ro_markTop y_Ro_markTop ∈ gi_tb := ⟨(gi_m3 116 rfl rfl), (gi_m3 117 rfl rfl)⟩
abbrev b_Ro_hasIndex : ByteArray := prog_10_method_2_code
theorem my_Ro_hasIndex : gi_my y_Ro_hasIndex b_Ro_hasIndex 2 (some .boolean) 1 := ⟨(gi_m3 122 rfl rfl), (gi_m1 5 rfl rfl), by decide, by decide, by decide +kernel⟩
theorem im_Ro_hasIndex : Cond.instanceMethod y_Ro_hasIndex ∈ gi_tb ∧ Cond.selects y_Ro_hasIndex.cls y_Ro_hasIndex y_Ro_hasIndex ∈ gi_tb := ⟨(gi_m3 120 rfl rfl), (gi_m3 121 rfl rfl)⟩
abbrev b_Ro_valueAt : ByteArray := prog_10_method_3_code
theorem my_Ro_valueAt : gi_my y_Ro_valueAt b_Ro_valueAt 2 (some (.object "AnalysisHouse$Value")) 1 := ⟨(gi_m3 126 rfl rfl), (gi_m1 5 rfl rfl), by decide, by decide, by decide +kernel⟩
theorem im_Ro_valueAt : Cond.instanceMethod y_Ro_valueAt ∈ gi_tb ∧ Cond.selects y_Ro_valueAt.cls y_Ro_valueAt y_Ro_valueAt ∈ gi_tb := ⟨(gi_m3 124 rfl rfl), (gi_m3 125 rfl rfl)⟩
abbrev b_Va_beSingle : ByteArray := prog_12_method_4_code
theorem my_Va_beSingle : gi_my y_Va_beSingle b_Va_beSingle 3 none 1 := ⟨(gi_m3 130 rfl rfl), (gi_m1 6 rfl rfl), by decide, by decide, by decide +kernel⟩
theorem im_Va_beSingle : Cond.instanceMethod y_Va_beSingle ∈ gi_tb ∧ Cond.selects y_Va_beSingle.cls y_Va_beSingle y_Va_beSingle ∈ gi_tb := ⟨(gi_m3 128 rfl rfl), (gi_m3 129 rfl rfl)⟩
abbrev b_Va_beSpan : ByteArray := prog_12_method_3_code
theorem my_Va_beSpan : gi_my y_Va_beSpan b_Va_beSpan 7 none 3 := ⟨(gi_m3 134 rfl rfl), (gi_m1 6 rfl rfl), by decide, by decide, by decide +kernel⟩
theorem im_Va_beSpan : Cond.instanceMethod y_Va_beSpan ∈ gi_tb ∧ Cond.selects y_Va_beSpan.cls y_Va_beSpan y_Va_beSpan ∈ gi_tb := ⟨(gi_m3 132 rfl rfl), (gi_m3 133 rfl rfl)⟩
abbrev b_Va_beAll : ByteArray := prog_12_method_5_code
theorem my_Va_beAll : gi_my y_Va_beAll b_Va_beAll 1 none 0 := ⟨(gi_m3 140 rfl rfl), (gi_m1 6 rfl rfl), by decide, by decide, by decide +kernel⟩
theorem im_Va_beAll : Cond.instanceMethod y_Va_beAll ∈ gi_tb ∧ Cond.selects y_Va_beAll.cls y_Va_beAll y_Va_beAll ∈ gi_tb := ⟨(gi_m3 138 rfl rfl), (gi_m3 139 rfl rfl)⟩
abbrev b_St_prepare : ByteArray := prog_11_method_2_code
theorem my_St_prepare : gi_my y_St_prepare b_St_prepare 4 none 3 := ⟨(gi_m3 146 rfl rfl), (gi_m1 7 rfl rfl), by decide, by decide, by decide +kernel⟩
theorem im_St_prepare : Cond.instanceMethod y_St_prepare ∈ gi_tb ∧ Cond.selects y_St_prepare.cls y_St_prepare y_St_prepare ∈ gi_tb := ⟨(gi_m3 144 rfl rfl), (gi_m3 145 rfl rfl)⟩
abbrev b_H_pass : ByteArray := prog_1_method_26_code
theorem my_H_pass : gi_my y_H_pass b_H_pass 4 none 1 := ⟨(gi_m3 151 rfl rfl), (gi_m1 1 rfl rfl), by decide, by decide, by decide +kernel⟩
theorem im_H_pass : Cond.instanceMethod y_H_pass ∈ gi_tb ∧ Cond.selects y_H_pass.cls y_H_pass y_H_pass ∈ gi_tb := ⟨(gi_m3 150 rfl rfl), gi_ms 14 rfl rfl⟩
abbrev b_H_isRoot : ByteArray := prog_1_method_25_code
theorem my_H_isRoot : gi_my y_H_isRoot b_H_isRoot 2 (some .boolean) 2 := ⟨(gi_m3 154 rfl rfl), (gi_m1 1 rfl rfl), by decide, by decide, by decide +kernel⟩
theorem sm_H_isRoot : Cond.static y_H_isRoot ∈ gi_tb := (gi_m3 153 rfl rfl)
abbrev b_St_enterRoot : ByteArray := prog_11_method_6_code
theorem my_St_enterRoot : gi_my y_St_enterRoot b_St_enterRoot 3 none 1 := ⟨(gi_m3 158 rfl rfl), (gi_m1 7 rfl rfl), by decide, by decide, by decide +kernel⟩
theorem im_St_enterRoot : Cond.instanceMethod y_St_enterRoot ∈ gi_tb ∧ Cond.selects y_St_enterRoot.cls y_St_enterRoot y_St_enterRoot ∈ gi_tb := ⟨(gi_m3 156 rfl rfl), (gi_m3 157 rfl rfl)⟩
abbrev b_St_openEntry : ByteArray := prog_11_method_5_code
theorem my_St_openEntry : gi_my y_St_openEntry b_St_openEntry 4 none 1 := ⟨(gi_m3 162 rfl rfl), (gi_m1 7 rfl rfl), by decide, by decide, by decide +kernel⟩
theorem im_St_openEntry : Cond.instanceMethod y_St_openEntry ∈ gi_tb ∧ Cond.selects y_St_openEntry.cls y_St_openEntry y_St_openEntry ∈ gi_tb := ⟨(gi_m3 161 rfl rfl), gi_ms 15 rfl rfl⟩
abbrev b_Va_beSet : ByteArray := prog_12_method_8_code
theorem my_Va_beSet : gi_my y_Va_beSet b_Va_beSet 3 none 2 := ⟨(gi_m3 169 rfl rfl), (gi_m1 6 rfl rfl), by decide, by decide, by decide +kernel⟩
theorem im_Va_beSet : Cond.instanceMethod y_Va_beSet ∈ gi_tb ∧ Cond.selects y_Va_beSet.cls y_Va_beSet y_Va_beSet ∈ gi_tb := ⟨(gi_m3 167 rfl rfl), (gi_m3 168 rfl rfl)⟩
abbrev b_Fa_stateAt : ByteArray := prog_3_method_3_code
theorem my_Fa_stateAt : gi_my y_Fa_stateAt b_Fa_stateAt 4 (some (.object "AnalysisHouse$Row")) 2 := ⟨(gi_m3 177 rfl rfl), (gi_m1 4 rfl rfl), by decide, by decide, by decide +kernel⟩
theorem im_Fa_stateAt : Cond.instanceMethod y_Fa_stateAt ∈ gi_tb ∧ Cond.selects y_Fa_stateAt.cls y_Fa_stateAt y_Fa_stateAt ∈ gi_tb := ⟨(gi_m3 175 rfl rfl), (gi_m3 176 rfl rfl)⟩
abbrev b_St_come : ByteArray := prog_11_method_3_code
theorem my_St_come : gi_my y_St_come b_St_come 4 none 3 := ⟨(gi_m3 181 rfl rfl), (gi_m1 7 rfl rfl), by decide, by decide, by decide +kernel⟩
theorem im_St_come : Cond.instanceMethod y_St_come ∈ gi_tb ∧ Cond.selects y_St_come.cls y_St_come y_St_come ∈ gi_tb := ⟨(gi_m3 180 rfl rfl), gi_ms 16 rfl rfl⟩
abbrev b_Ro_covers : ByteArray := prog_10_method_13_code
theorem my_Ro_covers : gi_my y_Ro_covers b_Ro_covers 3 (some .boolean) 1 := ⟨(gi_m3 185 rfl rfl), (gi_m1 5 rfl rfl), by decide, by decide, by decide +kernel⟩
theorem im_Ro_covers : Cond.instanceMethod y_Ro_covers ∈ gi_tb ∧ Cond.selects y_Ro_covers.cls y_Ro_covers y_Ro_covers ∈ gi_tb := ⟨(gi_m3 183 rfl rfl), (gi_m3 184 rfl rfl)⟩
abbrev b_Va_covers : ByteArray := prog_12_method_12_code
theorem my_Va_covers : gi_my y_Va_covers b_Va_covers 2 (some .boolean) 1 := ⟨(gi_m3 189 rfl rfl), (gi_m1 6 rfl rfl), by decide, by decide, by decide +kernel⟩
theorem im_Va_covers : Cond.instanceMethod y_Va_covers ∈ gi_tb ∧ Cond.selects y_Va_covers.cls y_Va_covers y_Va_covers ∈ gi_tb := ⟨(gi_m3 187 rfl rfl), (gi_m3 188 rfl rfl)⟩
abbrev b_Ro_join : ByteArray := prog_10_method_14_code
theorem my_Ro_join : gi_my y_Ro_join b_Ro_join 9 (some .boolean) 2 := ⟨(gi_m3 193 rfl rfl), (gi_m1 5 rfl rfl), by decide, by decide, by decide +kernel⟩
theorem im_Ro_join : Cond.instanceMethod y_Ro_join ∈ gi_tb ∧ Cond.selects y_Ro_join.cls y_Ro_join y_Ro_join ∈ gi_tb := ⟨(gi_m3 191 rfl rfl), (gi_m3 192 rfl rfl)⟩
abbrev b_Ro_copy : ByteArray := prog_10_method_7_code
theorem my_Ro_copy : gi_my y_Ro_copy b_Ro_copy 3 none 1 := ⟨(gi_m3 197 rfl rfl), (gi_m1 5 rfl rfl), by decide, by decide, by decide +kernel⟩
theorem im_Ro_copy : Cond.instanceMethod y_Ro_copy ∈ gi_tb ∧ Cond.selects y_Ro_copy.cls y_Ro_copy y_Ro_copy ∈ gi_tb := ⟨(gi_m3 195 rfl rfl), (gi_m3 196 rfl rfl)⟩
abbrev b_Mt_min_0 : ByteArray := prog_15_method_69_code
theorem my_Mt_min_0 : gi_my y_Mt_min_0 b_Mt_min_0 2 (some .int) 2 := ⟨(gi_m3 200 rfl rfl), (gi_m1 14 rfl rfl), by decide, by decide, by decide +kernel⟩
theorem sm_Mt_min_0 : Cond.static y_Mt_min_0 ∈ gi_tb := (gi_m3 199 rfl rfl)
abbrev b_Va_copy : ByteArray := prog_12_method_2_code
theorem my_Va_copy : gi_my y_Va_copy b_Va_copy 2 none 1 := ⟨(gi_m3 204 rfl rfl), (gi_m1 6 rfl rfl), by decide, by decide, by decide +kernel⟩
theorem im_Va_copy : Cond.instanceMethod y_Va_copy ∈ gi_tb ∧ Cond.selects y_Va_copy.cls y_Va_copy y_Va_copy ∈ gi_tb := ⟨(gi_m3 202 rfl rfl), (gi_m3 203 rfl rfl)⟩
abbrev b_Va_both : ByteArray := prog_12_method_13_code
theorem my_Va_both : gi_my y_Va_both b_Va_both 2 none 1 := ⟨(gi_m3 209 rfl rfl), (gi_m1 6 rfl rfl), by decide, by decide, by decide +kernel⟩
theorem im_Va_both : Cond.instanceMethod y_Va_both ∈ gi_tb ∧ Cond.selects y_Va_both.cls y_Va_both y_Va_both ∈ gi_tb := ⟨(gi_m3 207 rfl rfl), (gi_m3 208 rfl rfl)⟩
abbrev b_Va_isNothing : ByteArray := prog_12_method_9_code
theorem my_Va_isNothing : gi_my y_Va_isNothing b_Va_isNothing 1 (some .boolean) 0 := ⟨(gi_m3 213 rfl rfl), (gi_m1 6 rfl rfl), by decide, by decide, by decide +kernel⟩
theorem im_Va_isNothing : Cond.instanceMethod y_Va_isNothing ∈ gi_tb ∧ Cond.selects y_Va_isNothing.cls y_Va_isNothing y_Va_isNothing ∈ gi_tb := ⟨(gi_m3 211 rfl rfl), (gi_m3 212 rfl rfl)⟩
abbrev b_H_gcd : ByteArray := prog_1_method_29_code
theorem my_H_gcd : gi_my y_H_gcd b_H_gcd 11 (some .long) 2 := ⟨(gi_m3 217 rfl rfl), (gi_m1 1 rfl rfl), by decide, by decide, by decide +kernel⟩
theorem sm_H_gcd : Cond.static y_H_gcd ∈ gi_tb := (gi_m3 216 rfl rfl)
abbrev b_Mt_abs : ByteArray := prog_15_method_61_code
theorem my_Mt_abs : gi_my y_Mt_abs b_Mt_abs 2 (some .long) 1 := ⟨(gi_m3 220 rfl rfl), (gi_m1 14 rfl rfl), by decide, by decide, by decide +kernel⟩
theorem sm_Mt_abs : Cond.static y_Mt_abs ∈ gi_tb := (gi_m3 219 rfl rfl)
abbrev b_Mt_min_1 : ByteArray := prog_15_method_70_code
theorem my_Mt_min_1 : gi_my y_Mt_min_1 b_Mt_min_1 4 (some .long) 2 := ⟨(gi_m3 223 rfl rfl), (gi_m1 14 rfl rfl), by decide, by decide, by decide +kernel⟩
theorem sm_Mt_min_1 : Cond.static y_Mt_min_1 ∈ gi_tb := (gi_m3 222 rfl rfl)
abbrev b_Mt_max_0 : ByteArray := prog_15_method_66_code
theorem my_Mt_max_0 : gi_my y_Mt_max_0 b_Mt_max_0 4 (some .long) 2 := ⟨(gi_m3 226 rfl rfl), (gi_m1 14 rfl rfl), by decide, by decide, by decide +kernel⟩
theorem sm_Mt_max_0 : Cond.static y_Mt_max_0 ∈ gi_tb := (gi_m3 225 rfl rfl)
abbrev b_Va_spread : ByteArray := prog_12_method_16_code
theorem my_Va_spread : gi_my y_Va_spread b_Va_spread 8 none 2 := ⟨(gi_m3 230 rfl rfl), (gi_m1 6 rfl rfl), by decide, by decide, by decide +kernel⟩
theorem im_Va_spread : Cond.instanceMethod y_Va_spread ∈ gi_tb ∧ Cond.selects y_Va_spread.cls y_Va_spread y_Va_spread ∈ gi_tb := ⟨(gi_m3 228 rfl rfl), (gi_m3 229 rfl rfl)⟩
abbrev b_St_step : ByteArray := prog_11_method_7_code
theorem my_St_step : gi_my y_St_step b_St_step 7 none 2 := ⟨(gi_m3 237 rfl rfl), (gi_m1 7 rfl rfl), by decide, by decide, by decide +kernel⟩
theorem im_St_step : Cond.instanceMethod y_St_step ∈ gi_tb ∧ Cond.selects y_St_step.cls y_St_step y_St_step ∈ gi_tb := ⟨(gi_m3 235 rfl rfl), (gi_m3 236 rfl rfl)⟩
abbrev b_St_move : ByteArray := prog_11_method_8_code
theorem my_St_move : gi_my y_St_move b_St_move 4 (some .boolean) 2 := ⟨(gi_m4 4 rfl rfl), (gi_m1 7 rfl rfl), by decide, by decide, by decide +kernel⟩
theorem im_St_move : Cond.instanceMethod y_St_move ∈ gi_tb ∧ Cond.selects y_St_move.cls y_St_move y_St_move ∈ gi_tb := ⟨(gi_m4 3 rfl rfl), gi_ms 17 rfl rfl⟩
abbrev b_Ro_pop : ByteArray := prog_10_method_9_code
theorem my_Ro_pop : gi_my y_Ro_pop b_Ro_pop 2 (some .int) 1 := ⟨(gi_m4 10 rfl rfl), (gi_m1 5 rfl rfl), by decide, by decide, by decide +kernel⟩
theorem im_Ro_pop : Cond.instanceMethod y_Ro_pop ∈ gi_tb ∧ Cond.selects y_Ro_pop.cls y_Ro_pop y_Ro_pop ∈ gi_tb := ⟨(gi_m4 8 rfl rfl), (gi_m4 9 rfl rfl)⟩
abbrev b_Ro_dropMarks : ByteArray := prog_10_method_11_code
theorem my_Ro_dropMarks : gi_my y_Ro_dropMarks b_Ro_dropMarks 3 none 1 := ⟨(gi_m4 14 rfl rfl), (gi_m1 5 rfl rfl), by decide, by decide, by decide +kernel⟩
theorem im_Ro_dropMarks : Cond.instanceMethod y_Ro_dropMarks ∈ gi_tb ∧ Cond.selects y_Ro_dropMarks.cls y_Ro_dropMarks y_Ro_dropMarks ∈ gi_tb := ⟨(gi_m4 12 rfl rfl), (gi_m4 13 rfl rfl)⟩
abbrev b_Ro_swapTop : ByteArray := prog_10_method_10_code
theorem my_Ro_swapTop : gi_my y_Ro_swapTop b_Ro_swapTop 3 none 0 := ⟨(gi_m4 18 rfl rfl), (gi_m1 5 rfl rfl), by decide, by decide, by decide +kernel⟩
theorem im_Ro_swapTop : Cond.instanceMethod y_Ro_swapTop ∈ gi_tb ∧ Cond.selects y_Ro_swapTop.cls y_Ro_swapTop y_Ro_swapTop ∈ gi_tb := ⟨(gi_m4 16 rfl rfl), (gi_m4 17 rfl rfl)⟩
abbrev b_St_reckon : ByteArray := prog_11_method_9_code
theorem my_St_reckon : gi_my y_St_reckon b_St_reckon 3 (some .boolean) 1 := ⟨(gi_m4 22 rfl rfl), (gi_m1 7 rfl rfl), by decide, by decide, by decide +kernel⟩
theorem im_St_reckon : Cond.instanceMethod y_St_reckon ∈ gi_tb ∧ Cond.selects y_St_reckon.cls y_St_reckon y_St_reckon ∈ gi_tb := ⟨(gi_m4 21 rfl rfl), gi_ms 18 rfl rfl⟩
abbrev b_Va_loseAtEnds : ByteArray := prog_12_method_15_code
theorem my_Va_loseAtEnds : gi_my y_Va_loseAtEnds b_Va_loseAtEnds 3 none 1 := ⟨(gi_m4 26 rfl rfl), (gi_m1 6 rfl rfl), by decide, by decide, by decide +kernel⟩
theorem im_Va_loseAtEnds : Cond.instanceMethod y_Va_loseAtEnds ∈ gi_tb ∧ Cond.selects y_Va_loseAtEnds.cls y_Va_loseAtEnds y_Va_loseAtEnds ∈ gi_tb := ⟨(gi_m4 24 rfl rfl), (gi_m4 25 rfl rfl)⟩
abbrev b_Va_within : ByteArray := prog_12_method_14_code
theorem my_Va_within : gi_my y_Va_within b_Va_within 10 none 2 := ⟨(gi_m4 30 rfl rfl), (gi_m1 6 rfl rfl), by decide, by decide, by decide +kernel⟩
theorem im_Va_within : Cond.instanceMethod y_Va_within ∈ gi_tb ∧ Cond.selects y_Va_within.cls y_Va_within y_Va_within ∈ gi_tb := ⟨(gi_m4 28 rfl rfl), (gi_m4 29 rfl rfl)⟩
abbrev b_Ro_tell : ByteArray := prog_10_method_12_code
theorem my_Ro_tell : gi_my y_Ro_tell b_Ro_tell 4 none 2 := ⟨(gi_m4 35 rfl rfl), (gi_m1 5 rfl rfl), by decide, by decide, by decide +kernel⟩
theorem im_Ro_tell : Cond.instanceMethod y_Ro_tell ∈ gi_tb ∧ Cond.selects y_Ro_tell.cls y_Ro_tell y_Ro_tell ∈ gi_tb := ⟨(gi_m4 33 rfl rfl), (gi_m4 34 rfl rfl)⟩
abbrev b_Re_reckon : ByteArray := prog_9_method_2_code
theorem my_Re_reckon : gi_my y_Re_reckon b_Re_reckon 5 none 4 := ⟨(gi_m4 39 rfl rfl), (gi_m1 8 rfl rfl), by decide, by decide, by decide +kernel⟩
theorem im_Re_reckon : Cond.instanceMethod y_Re_reckon ∈ gi_tb ∧ Cond.selects y_Re_reckon.cls y_Re_reckon y_Re_reckon ∈ gi_tb := ⟨(gi_m4 37 rfl rfl), (gi_m4 38 rfl rfl)⟩
abbrev b_Re_turn : ByteArray := prog_9_method_3_code
theorem my_Re_turn : gi_my y_Re_turn b_Re_turn 14 none 4 := ⟨(gi_m4 44 rfl rfl), (gi_m1 8 rfl rfl), by decide, by decide, by decide +kernel⟩
theorem im_Re_turn : Cond.instanceMethod y_Re_turn ∈ gi_tb ∧ Cond.selects y_Re_turn.cls y_Re_turn y_Re_turn ∈ gi_tb := ⟨(gi_m4 43 rfl rfl), gi_ms 19 rfl rfl⟩
abbrev b_Mt_floorMod : ByteArray := prog_15_method_52_code
theorem my_Mt_floorMod : gi_my y_Mt_floorMod b_Mt_floorMod 6 (some .long) 2 := ⟨(gi_m4 52 rfl rfl), (gi_m1 14 rfl rfl), by decide, by decide, by decide +kernel⟩
theorem sm_Mt_floorMod : Cond.static y_Mt_floorMod ∈ gi_tb := (gi_m4 51 rfl rfl)
abbrev b_Va_isSingle : ByteArray := prog_12_method_10_code
theorem my_Va_isSingle : gi_my y_Va_isSingle b_Va_isSingle 1 (some .boolean) 0 := ⟨(gi_m4 56 rfl rfl), (gi_m1 6 rfl rfl), by decide, by decide, by decide +kernel⟩
theorem im_Va_isSingle : Cond.instanceMethod y_Va_isSingle ∈ gi_tb ∧ Cond.selects y_Va_isSingle.cls y_Va_isSingle y_Va_isSingle ∈ gi_tb := ⟨(gi_m4 54 rfl rfl), (gi_m4 55 rfl rfl)⟩
abbrev b_Re_times : ByteArray := prog_9_method_4_code
theorem my_Re_times : gi_my y_Re_times b_Re_times 5 none 3 := ⟨(gi_m4 60 rfl rfl), (gi_m1 8 rfl rfl), by decide, by decide, by decide +kernel⟩
theorem im_Re_times : Cond.instanceMethod y_Re_times ∈ gi_tb ∧ Cond.selects y_Re_times.cls y_Re_times y_Re_times ∈ gi_tb := ⟨(gi_m4 59 rfl rfl), gi_ms 20 rfl rfl⟩
abbrev b_Re_multiply : ByteArray := prog_9_method_5_code
theorem my_Re_multiply : gi_my y_Re_multiply b_Re_multiply 14 none 3 := ⟨(gi_m4 65 rfl rfl), (gi_m1 8 rfl rfl), by decide, by decide, by decide +kernel⟩
theorem im_Re_multiply : Cond.instanceMethod y_Re_multiply ∈ gi_tb ∧ Cond.selects y_Re_multiply.cls y_Re_multiply y_Re_multiply ∈ gi_tb := ⟨(gi_m4 64 rfl rfl), gi_ms 21 rfl rfl⟩
abbrev b_Re_divide : ByteArray := prog_9_method_7_code
theorem my_Re_divide : gi_my y_Re_divide b_Re_divide 4 none 3 := ⟨(gi_m4 70 rfl rfl), (gi_m1 8 rfl rfl), by decide, by decide, by decide +kernel⟩
theorem im_Re_divide : Cond.instanceMethod y_Re_divide ∈ gi_tb ∧ Cond.selects y_Re_divide.cls y_Re_divide y_Re_divide ∈ gi_tb := ⟨(gi_m4 69 rfl rfl), gi_ms 22 rfl rfl⟩
abbrev b_Va_has : ByteArray := prog_12_method_11_code
theorem my_Va_has : gi_my y_Va_has b_Va_has 3 (some .boolean) 1 := ⟨(gi_m4 75 rfl rfl), (gi_m1 6 rfl rfl), by decide, by decide, by decide +kernel⟩
theorem im_Va_has : Cond.instanceMethod y_Va_has ∈ gi_tb ∧ Cond.selects y_Va_has.cls y_Va_has y_Va_has ∈ gi_tb := ⟨(gi_m4 73 rfl rfl), (gi_m4 74 rfl rfl)⟩
abbrev b_Re_splitDivisor : ByteArray := prog_9_method_6_code
theorem my_Re_splitDivisor : gi_my y_Re_splitDivisor b_Re_splitDivisor 2 none 1 := ⟨(gi_m4 80 rfl rfl), (gi_m1 8 rfl rfl), by decide, by decide, by decide +kernel⟩
theorem im_Re_splitDivisor : Cond.instanceMethod y_Re_splitDivisor ∈ gi_tb ∧ Cond.selects y_Re_splitDivisor.cls y_Re_splitDivisor y_Re_splitDivisor ∈ gi_tb := ⟨(gi_m4 79 rfl rfl), gi_ms 23 rfl rfl⟩
abbrev b_Va_beNothing : ByteArray := prog_12_method_6_code
theorem my_Va_beNothing : gi_my y_Va_beNothing b_Va_beNothing 1 none 0 := ⟨(gi_m4 86 rfl rfl), (gi_m1 6 rfl rfl), by decide, by decide, by decide +kernel⟩
theorem im_Va_beNothing : Cond.instanceMethod y_Va_beNothing ∈ gi_tb ∧ Cond.selects y_Va_beNothing.cls y_Va_beNothing y_Va_beNothing ∈ gi_tb := ⟨(gi_m4 84 rfl rfl), (gi_m4 85 rfl rfl)⟩
abbrev b_Re_reachQuotients : ByteArray := prog_9_method_8_code
theorem my_Re_reachQuotients : gi_my y_Re_reachQuotients b_Re_reachQuotients 4 none 3 := ⟨(gi_m4 90 rfl rfl), (gi_m1 8 rfl rfl), by decide, by decide, by decide +kernel⟩
theorem im_Re_reachQuotients : Cond.instanceMethod y_Re_reachQuotients ∈ gi_tb ∧ Cond.selects y_Re_reachQuotients.cls y_Re_reachQuotients y_Re_reachQuotients ∈ gi_tb := ⟨(gi_m4 89 rfl rfl), gi_ms 24 rfl rfl⟩
abbrev b_Va_reach : ByteArray := prog_12_method_7_code
theorem my_Va_reach : gi_my y_Va_reach b_Va_reach 4 none 1 := ⟨(gi_m4 95 rfl rfl), (gi_m1 6 rfl rfl), by decide, by decide, by decide +kernel⟩
theorem im_Va_reach : Cond.instanceMethod y_Va_reach ∈ gi_tb ∧ Cond.selects y_Va_reach.cls y_Va_reach y_Va_reach ∈ gi_tb := ⟨(gi_m4 93 rfl rfl), (gi_m4 94 rfl rfl)⟩
abbrev b_Re_remain : ByteArray := prog_9_method_9_code
theorem my_Re_remain : gi_my y_Re_remain b_Re_remain 8 none 3 := ⟨(gi_m4 99 rfl rfl), (gi_m1 8 rfl rfl), by decide, by decide, by decide +kernel⟩
theorem im_Re_remain : Cond.instanceMethod y_Re_remain ∈ gi_tb ∧ Cond.selects y_Re_remain.cls y_Re_remain y_Re_remain ∈ gi_tb := ⟨(gi_m4 98 rfl rfl), gi_ms 25 rfl rfl⟩
abbrev b_Re_combine : ByteArray := prog_9_method_10_code
theorem my_Re_combine : gi_my y_Re_combine b_Re_combine 8 none 4 := ⟨(gi_m4 104 rfl rfl), (gi_m1 8 rfl rfl), by decide, by decide, by decide +kernel⟩
theorem im_Re_combine : Cond.instanceMethod y_Re_combine ∈ gi_tb ∧ Cond.selects y_Re_combine.cls y_Re_combine y_Re_combine ∈ gi_tb := ⟨(gi_m4 103 rfl rfl), gi_ms 26 rfl rfl⟩
abbrev b_Re_shiftRight : ByteArray := prog_9_method_11_code
theorem my_Re_shiftRight : gi_my y_Re_shiftRight b_Re_shiftRight 5 none 3 := ⟨(gi_m4 110 rfl rfl), (gi_m1 8 rfl rfl), by decide, by decide, by decide +kernel⟩
theorem im_Re_shiftRight : Cond.instanceMethod y_Re_shiftRight ∈ gi_tb ∧ Cond.selects y_Re_shiftRight.cls y_Re_shiftRight y_Re_shiftRight ∈ gi_tb := ⟨(gi_m4 109 rfl rfl), gi_ms 27 rfl rfl⟩
abbrev b_Re_shiftBare : ByteArray := prog_9_method_12_code
theorem my_Re_shiftBare : gi_my y_Re_shiftBare b_Re_shiftBare 5 none 3 := ⟨(gi_m4 114 rfl rfl), (gi_m1 8 rfl rfl), by decide, by decide, by decide +kernel⟩
theorem im_Re_shiftBare : Cond.instanceMethod y_Re_shiftBare ∈ gi_tb ∧ Cond.selects y_Re_shiftBare.cls y_Re_shiftBare y_Re_shiftBare ∈ gi_tb := ⟨(gi_m4 113 rfl rfl), gi_ms 28 rfl rfl⟩
abbrev b_Bu_isWide : ByteArray := prog_2_method_6_code
theorem my_Bu_isWide : gi_my y_Bu_isWide b_Bu_isWide 3 (some .boolean) 2 := ⟨(gi_m4 118 rfl rfl), (gi_m1 3 rfl rfl), by decide, by decide, by decide +kernel⟩
theorem im_Bu_isWide : Cond.instanceMethod y_Bu_isWide ∈ gi_tb ∧ Cond.selects y_Bu_isWide.cls y_Bu_isWide y_Bu_isWide ∈ gi_tb := ⟨(gi_m4 116 rfl rfl), (gi_m4 117 rfl rfl)⟩
abbrev b_St_compare : ByteArray := prog_11_method_10_code
theorem my_St_compare : gi_my y_St_compare b_St_compare 5 none 2 := ⟨(gi_m4 122 rfl rfl), (gi_m1 7 rfl rfl), by decide, by decide, by decide +kernel⟩
theorem im_St_compare : Cond.instanceMethod y_St_compare ∈ gi_tb ∧ Cond.selects y_St_compare.cls y_St_compare y_St_compare ∈ gi_tb := ⟨(gi_m4 121 rfl rfl), gi_ms 29 rfl rfl⟩
abbrev b_St_narrow : ByteArray := prog_11_method_12_code
theorem my_St_narrow : gi_my y_St_narrow b_St_narrow 2 none 1 := ⟨(gi_m4 126 rfl rfl), (gi_m1 7 rfl rfl), by decide, by decide, by decide +kernel⟩
theorem im_St_narrow : Cond.instanceMethod y_St_narrow ∈ gi_tb ∧ Cond.selects y_St_narrow.cls y_St_narrow y_St_narrow ∈ gi_tb := ⟨(gi_m4 125 rfl rfl), gi_ms 30 rfl rfl⟩
abbrev b_St_opens : ByteArray := prog_11_method_11_code
theorem my_St_opens : gi_my y_St_opens b_St_opens 3 (some .boolean) 2 := ⟨(gi_m4 134 rfl rfl), (gi_m1 7 rfl rfl), by decide, by decide, by decide +kernel⟩
theorem im_St_opens : Cond.instanceMethod y_St_opens ∈ gi_tb ∧ Cond.selects y_St_opens.cls y_St_opens y_St_opens ∈ gi_tb := ⟨(gi_m4 133 rfl rfl), gi_ms 31 rfl rfl⟩
abbrev b_St_askNull : ByteArray := prog_11_method_13_code
theorem my_St_askNull : gi_my y_St_askNull b_St_askNull 4 none 2 := ⟨(gi_m4 138 rfl rfl), (gi_m1 7 rfl rfl), by decide, by decide, by decide +kernel⟩
theorem im_St_askNull : Cond.instanceMethod y_St_askNull ∈ gi_tb ∧ Cond.selects y_St_askNull.cls y_St_askNull y_St_askNull ∈ gi_tb := ⟨(gi_m4 137 rfl rfl), gi_ms 32 rfl rfl⟩
abbrev b_St_opensNull : ByteArray := prog_11_method_14_code
theorem my_St_opensNull : gi_my y_St_opensNull b_St_opensNull 3 (some .boolean) 2 := ⟨(gi_m4 142 rfl rfl), (gi_m1 7 rfl rfl), by decide, by decide, by decide +kernel⟩
theorem im_St_opensNull : Cond.instanceMethod y_St_opensNull ∈ gi_tb ∧ Cond.selects y_St_opensNull.cls y_St_opensNull y_St_opensNull ∈ gi_tb := ⟨(gi_m4 141 rfl rfl), gi_ms 33 rfl rfl⟩
abbrev b_St_makeArray : ByteArray := prog_11_method_15_code
theorem my_St_makeArray : gi_my y_St_makeArray b_St_makeArray 3 (some .boolean) 0 := ⟨(gi_m4 146 rfl rfl), (gi_m1 7 rfl rfl), by decide, by decide, by decide +kernel⟩
theorem im_St_makeArray : Cond.instanceMethod y_St_makeArray ∈ gi_tb ∧ Cond.selects y_St_makeArray.cls y_St_makeArray y_St_makeArray ∈ gi_tb := ⟨(gi_m4 145 rfl rfl), gi_ms 34 rfl rfl⟩
abbrev b_Bu_siteAt : ByteArray := prog_2_method_5_code
theorem my_Bu_siteAt : gi_my y_Bu_siteAt b_Bu_siteAt 3 (some .int) 2 := ⟨(gi_m4 150 rfl rfl), (gi_m1 3 rfl rfl), by decide, by decide, by decide +kernel⟩
theorem im_Bu_siteAt : Cond.instanceMethod y_Bu_siteAt ∈ gi_tb ∧ Cond.selects y_Bu_siteAt.cls y_Bu_siteAt y_Bu_siteAt ∈ gi_tb := ⟨(gi_m4 148 rfl rfl), (gi_m4 149 rfl rfl)⟩
abbrev b_Fa_lengthOf : ByteArray := prog_3_method_4_code
theorem my_Fa_lengthOf : gi_my y_Fa_lengthOf b_Fa_lengthOf 2 (some (.object "AnalysisHouse$Row")) 1 := ⟨(gi_m4 154 rfl rfl), (gi_m1 4 rfl rfl), by decide, by decide, by decide +kernel⟩
theorem im_Fa_lengthOf : Cond.instanceMethod y_Fa_lengthOf ∈ gi_tb ∧ Cond.selects y_Fa_lengthOf.cls y_Fa_lengthOf y_Fa_lengthOf ∈ gi_tb := ⟨(gi_m4 152 rfl rfl), (gi_m4 153 rfl rfl)⟩
abbrev b_St_alone : ByteArray := prog_11_method_4_code
theorem my_St_alone : gi_my y_St_alone b_St_alone 2 (some (.object "AnalysisHouse$Row")) 1 := ⟨(gi_m4 158 rfl rfl), (gi_m1 7 rfl rfl), by decide, by decide, by decide +kernel⟩
theorem im_St_alone : Cond.instanceMethod y_St_alone ∈ gi_tb ∧ Cond.selects y_St_alone.cls y_St_alone y_St_alone ∈ gi_tb := ⟨(gi_m4 157 rfl rfl), gi_ms 35 rfl rfl⟩
abbrev b_Fa_elementOf : ByteArray := prog_3_method_5_code
theorem my_Fa_elementOf : gi_my y_Fa_elementOf b_Fa_elementOf 2 (some (.object "AnalysisHouse$Row")) 1 := ⟨(gi_m4 162 rfl rfl), (gi_m1 4 rfl rfl), by decide, by decide, by decide +kernel⟩
theorem im_Fa_elementOf : Cond.instanceMethod y_Fa_elementOf ∈ gi_tb ∧ Cond.selects y_Fa_elementOf.cls y_Fa_elementOf y_Fa_elementOf ∈ gi_tb := ⟨(gi_m4 160 rfl rfl), (gi_m4 161 rfl rfl)⟩
abbrev b_St_useArray : ByteArray := prog_11_method_17_code
theorem my_St_useArray : gi_my y_St_useArray b_St_useArray 5 (some .boolean) 1 := ⟨(gi_m4 166 rfl rfl), (gi_m1 7 rfl rfl), by decide, by decide, by decide +kernel⟩
theorem im_St_useArray : Cond.instanceMethod y_St_useArray ∈ gi_tb ∧ Cond.selects y_St_useArray.cls y_St_useArray y_St_useArray ∈ gi_tb := ⟨(gi_m4 165 rfl rfl), gi_ms 36 rfl rfl⟩
abbrev b_St_gather : ByteArray := prog_11_method_16_code
theorem my_St_gather : gi_my y_St_gather b_St_gather 5 none 2 := ⟨(gi_m4 170 rfl rfl), (gi_m1 7 rfl rfl), by decide, by decide, by decide +kernel⟩
theorem im_St_gather : Cond.instanceMethod y_St_gather ∈ gi_tb ∧ Cond.selects y_St_gather.cls y_St_gather y_St_gather ∈ gi_tb := ⟨(gi_m4 169 rfl rfl), gi_ms 37 rfl rfl⟩
abbrev b_St_enter : ByteArray := prog_11_method_18_code
theorem my_St_enter : gi_my y_St_enter b_St_enter 3 (some .boolean) 1 := ⟨(gi_m4 176 rfl rfl), (gi_m1 7 rfl rfl), by decide, by decide, by decide +kernel⟩
theorem im_St_enter : Cond.instanceMethod y_St_enter ∈ gi_tb ∧ Cond.selects y_St_enter.cls y_St_enter y_St_enter ∈ gi_tb := ⟨(gi_m4 175 rfl rfl), gi_ms 38 rfl rfl⟩
abbrev b_Fa_resultOf : ByteArray := prog_3_method_7_code
theorem my_Fa_resultOf : gi_my y_Fa_resultOf b_Fa_resultOf 2 (some (.object "AnalysisHouse$Row")) 1 := ⟨(gi_m4 180 rfl rfl), (gi_m1 4 rfl rfl), by decide, by decide, by decide +kernel⟩
theorem im_Fa_resultOf : Cond.instanceMethod y_Fa_resultOf ∈ gi_tb ∧ Cond.selects y_Fa_resultOf.cls y_Fa_resultOf y_Fa_resultOf ∈ gi_tb := ⟨(gi_m4 178 rfl rfl), (gi_m4 179 rfl rfl)⟩
abbrev b_St_giveBack : ByteArray := prog_11_method_19_code
theorem my_St_giveBack : gi_my y_St_giveBack b_St_giveBack 1 none 0 := ⟨(gi_m4 184 rfl rfl), (gi_m1 7 rfl rfl), by decide, by decide, by decide +kernel⟩
theorem im_St_giveBack : Cond.instanceMethod y_St_giveBack ∈ gi_tb ∧ Cond.selects y_St_giveBack.cls y_St_giveBack y_St_giveBack ∈ gi_tb := ⟨(gi_m4 183 rfl rfl), gi_ms 39 rfl rfl⟩
abbrev b_St_useField : ByteArray := prog_11_method_20_code
theorem my_St_useField : gi_my y_St_useField b_St_useField 3 (some .boolean) 2 := ⟨(gi_m4 189 rfl rfl), (gi_m1 7 rfl rfl), by decide, by decide, by decide +kernel⟩
theorem im_St_useField : Cond.instanceMethod y_St_useField ∈ gi_tb ∧ Cond.selects y_St_useField.cls y_St_useField y_St_useField ∈ gi_tb := ⟨(gi_m4 188 rfl rfl), gi_ms 40 rfl rfl⟩
abbrev b_Fa_fieldOf : ByteArray := prog_3_method_6_code
theorem my_Fa_fieldOf : gi_my y_Fa_fieldOf b_Fa_fieldOf 2 (some (.object "AnalysisHouse$Row")) 1 := ⟨(gi_m4 193 rfl rfl), (gi_m1 4 rfl rfl), by decide, by decide, by decide +kernel⟩
theorem im_Fa_fieldOf : Cond.instanceMethod y_Fa_fieldOf ∈ gi_tb ∧ Cond.selects y_Fa_fieldOf.cls y_Fa_fieldOf y_Fa_fieldOf ∈ gi_tb := ⟨(gi_m4 191 rfl rfl), (gi_m4 192 rfl rfl)⟩
abbrev b_H_reached : ByteArray := prog_1_method_8_code
theorem my_H_reached : gi_my y_H_reached b_H_reached 3 (some .boolean) 2 := ⟨(gi_m4 197 rfl rfl), (gi_m1 1 rfl rfl), by decide, by decide, by decide +kernel⟩
theorem im_H_reached : Cond.instanceMethod y_H_reached ∈ gi_tb ∧ Cond.selects y_H_reached.cls y_H_reached y_H_reached ∈ gi_tb := ⟨(gi_m4 195 rfl rfl), (gi_m4 196 rfl rfl)⟩
abbrev b_H_state : ByteArray := prog_1_method_9_code
theorem my_H_state : gi_my y_H_state b_H_state 6 (some .long) 4 := ⟨(gi_m4 203 rfl rfl), (gi_m1 1 rfl rfl), by decide, by decide, by decide +kernel⟩
theorem im_H_state : Cond.instanceMethod y_H_state ∈ gi_tb ∧ Cond.selects y_H_state.cls y_H_state y_H_state ∈ gi_tb := ⟨(gi_m4 201 rfl rfl), (gi_m4 202 rfl rfl)⟩
abbrev b_H_told : ByteArray := prog_1_method_28_code
theorem my_H_told : gi_my y_H_told b_H_told 6 (some (.object "AnalysisHouse$Value")) 3 := ⟨(gi_m4 207 rfl rfl), (gi_m1 1 rfl rfl), by decide, by decide, by decide +kernel⟩
theorem im_H_told : Cond.instanceMethod y_H_told ∈ gi_tb ∧ Cond.selects y_H_told.cls y_H_told y_H_told ∈ gi_tb := ⟨(gi_m4 206 rfl rfl), gi_ms 41 rfl rfl⟩
abbrev b_H_indexOf : ByteArray := prog_1_method_27_code
theorem my_H_indexOf : gi_my y_H_indexOf b_H_indexOf 4 (some .int) 2 := ⟨(gi_m4 212 rfl rfl), (gi_m1 1 rfl rfl), by decide, by decide, by decide +kernel⟩
theorem im_H_indexOf : Cond.instanceMethod y_H_indexOf ∈ gi_tb ∧ Cond.selects y_H_indexOf.cls y_H_indexOf y_H_indexOf ∈ gi_tb := ⟨(gi_m4 211 rfl rfl), gi_ms 42 rfl rfl⟩
abbrev b_Ro_markAt : ByteArray := prog_10_method_4_code
theorem my_Ro_markAt : gi_my y_Ro_markAt b_Ro_markAt 2 (some .int) 1 := ⟨(gi_m4 219 rfl rfl), (gi_m1 5 rfl rfl), by decide, by decide, by decide +kernel⟩
theorem im_Ro_markAt : Cond.instanceMethod y_Ro_markAt ∈ gi_tb ∧ Cond.selects y_Ro_markAt.cls y_Ro_markAt y_Ro_markAt ∈ gi_tb := ⟨(gi_m4 217 rfl rfl), (gi_m4 218 rfl rfl)⟩
abbrev b_Va_part : ByteArray := prog_12_method_17_code
theorem my_Va_part : gi_my y_Va_part b_Va_part 2 (some .long) 1 := ⟨(gi_m4 223 rfl rfl), (gi_m1 6 rfl rfl), by decide, by decide, by decide +kernel⟩
theorem im_Va_part : Cond.instanceMethod y_Va_part ∈ gi_tb ∧ Cond.selects y_Va_part.cls y_Va_part y_Va_part ∈ gi_tb := ⟨(gi_m4 221 rfl rfl), (gi_m4 222 rfl rfl)⟩
abbrev b_H_site : ByteArray := prog_1_method_10_code
theorem my_H_site : gi_my y_H_site b_H_site 4 (some .long) 2 := ⟨(gi_m4 228 rfl rfl), (gi_m1 1 rfl rfl), by decide, by decide, by decide +kernel⟩
theorem im_H_site : Cond.instanceMethod y_H_site ∈ gi_tb ∧ Cond.selects y_H_site.cls y_H_site y_H_site ∈ gi_tb := ⟨(gi_m4 226 rfl rfl), (gi_m4 227 rfl rfl)⟩
abbrev b_Bu_siteMethod : ByteArray := prog_2_method_3_code
theorem my_Bu_siteMethod : gi_my y_Bu_siteMethod b_Bu_siteMethod 2 (some .int) 1 := ⟨(gi_m4 232 rfl rfl), (gi_m1 3 rfl rfl), by decide, by decide, by decide +kernel⟩
theorem im_Bu_siteMethod : Cond.instanceMethod y_Bu_siteMethod ∈ gi_tb ∧ Cond.selects y_Bu_siteMethod.cls y_Bu_siteMethod y_Bu_siteMethod ∈ gi_tb := ⟨(gi_m4 230 rfl rfl), (gi_m4 231 rfl rfl)⟩
abbrev b_Bu_sitePlace : ByteArray := prog_2_method_4_code
theorem my_Bu_sitePlace : gi_my y_Bu_sitePlace b_Bu_sitePlace 2 (some .int) 1 := ⟨(gi_m4 236 rfl rfl), (gi_m1 3 rfl rfl), by decide, by decide, by decide +kernel⟩
theorem im_Bu_sitePlace : Cond.instanceMethod y_Bu_sitePlace ∈ gi_tb ∧ Cond.selects y_Bu_sitePlace.cls y_Bu_sitePlace y_Bu_sitePlace ∈ gi_tb := ⟨(gi_m4 234 rfl rfl), (gi_m4 235 rfl rfl)⟩
abbrev b_H_field : ByteArray := prog_1_method_11_code
theorem my_H_field : gi_my y_H_field b_H_field 3 (some .long) 2 := ⟨(gi_m5 2 rfl rfl), (gi_m1 1 rfl rfl), by decide, by decide, by decide +kernel⟩
theorem im_H_field : Cond.instanceMethod y_H_field ∈ gi_tb ∧ Cond.selects y_H_field.cls y_H_field y_H_field ∈ gi_tb := ⟨(gi_m5 0 rfl rfl), (gi_m5 1 rfl rfl)⟩
abbrev b_H_result : ByteArray := prog_1_method_12_code
theorem my_H_result : gi_my y_H_result b_H_result 4 (some .long) 2 := ⟨(gi_m5 7 rfl rfl), (gi_m1 1 rfl rfl), by decide, by decide, by decide +kernel⟩
theorem im_H_result : Cond.instanceMethod y_H_result ∈ gi_tb ∧ Cond.selects y_H_result.cls y_H_result y_H_result ∈ gi_tb := ⟨(gi_m5 5 rfl rfl), (gi_m5 6 rfl rfl)⟩
abbrev b_H_verdict : ByteArray := prog_1_method_13_code
theorem my_H_verdict : gi_my y_H_verdict b_H_verdict 4 (some .int) 3 := ⟨(gi_m5 13 rfl rfl), (gi_m1 1 rfl rfl), by decide, by decide, by decide +kernel⟩
theorem im_H_verdict : Cond.instanceMethod y_H_verdict ∈ gi_tb ∧ Cond.selects y_H_verdict.cls y_H_verdict y_H_verdict ∈ gi_tb := ⟨(gi_m5 11 rfl rfl), (gi_m5 12 rfl rfl)⟩
abbrev b_Ju_judge : ByteArray := prog_6_method_2_code
theorem my_Ju_judge : gi_my y_Ju_judge b_Ju_judge 8 (some .int) 3 := ⟨(gi_m5 17 rfl rfl), (gi_m1 9 rfl rfl), by decide, by decide, by decide +kernel⟩
theorem im_Ju_judge : Cond.instanceMethod y_Ju_judge ∈ gi_tb ∧ Cond.selects y_Ju_judge.cls y_Ju_judge y_Ju_judge ∈ gi_tb := ⟨(gi_m5 15 rfl rfl), (gi_m5 16 rfl rfl)⟩
abbrev b_Ju_judgeIndex : ByteArray := prog_6_method_3_code
theorem my_Ju_judgeIndex : gi_my y_Ju_judgeIndex b_Ju_judgeIndex 9 (some .int) 2 := ⟨(gi_m5 26 rfl rfl), (gi_m1 9 rfl rfl), by decide, by decide, by decide +kernel⟩
theorem im_Ju_judgeIndex : Cond.instanceMethod y_Ju_judgeIndex ∈ gi_tb ∧ Cond.selects y_Ju_judgeIndex.cls y_Ju_judgeIndex y_Ju_judgeIndex ∈ gi_tb := ⟨(gi_m5 25 rfl rfl), gi_ms 43 rfl rfl⟩
abbrev b_H_verdicts : ByteArray := prog_1_method_14_code
theorem my_H_verdicts : gi_my y_H_verdicts b_H_verdicts 5 (some .int) 1 := ⟨(gi_m5 35 rfl rfl), (gi_m1 1 rfl rfl), by decide, by decide, by decide +kernel⟩
theorem im_H_verdicts : Cond.instanceMethod y_H_verdicts ∈ gi_tb ∧ Cond.selects y_H_verdicts.cls y_H_verdicts y_H_verdicts ∈ gi_tb := ⟨(gi_m5 33 rfl rfl), (gi_m5 34 rfl rfl)⟩
abbrev b_Ju_howMany : ByteArray := prog_6_method_4_code
theorem my_Ju_howMany : gi_my y_Ju_howMany b_Ju_howMany 7 (some .int) 3 := ⟨(gi_m5 39 rfl rfl), (gi_m1 9 rfl rfl), by decide, by decide, by decide +kernel⟩
theorem im_Ju_howMany : Cond.instanceMethod y_Ju_howMany ∈ gi_tb ∧ Cond.selects y_Ju_howMany.cls y_Ju_howMany y_Ju_howMany ∈ gi_tb := ⟨(gi_m5 37 rfl rfl), (gi_m5 38 rfl rfl)⟩
abbrev b_Ju_canBe : ByteArray := prog_6_method_5_code
theorem my_Ju_canBe : gi_my y_Ju_canBe b_Ju_canBe 2 (some .boolean) 2 := ⟨(gi_m5 42 rfl rfl), (gi_m1 9 rfl rfl), by decide, by decide, by decide +kernel⟩
theorem sm_Ju_canBe : Cond.static y_Ju_canBe ∈ gi_tb := (gi_m5 41 rfl rfl)
abbrev b_H_plant : ByteArray := prog_1_method_15_code
theorem my_H_plant : gi_my y_H_plant b_H_plant 7 (some .boolean) 5 := ⟨(gi_m5 47 rfl rfl), (gi_m1 1 rfl rfl), by decide, by decide, by decide +kernel⟩
theorem im_H_plant : Cond.instanceMethod y_H_plant ∈ gi_tb ∧ Cond.selects y_H_plant.cls y_H_plant y_H_plant ∈ gi_tb := ⟨(gi_m5 45 rfl rfl), (gi_m5 46 rfl rfl)⟩
abbrev b_H_forgetState : ByteArray := prog_1_method_16_code
theorem my_H_forgetState : gi_my y_H_forgetState b_H_forgetState 3 (some .boolean) 2 := ⟨(gi_m5 52 rfl rfl), (gi_m1 1 rfl rfl), by decide, by decide, by decide +kernel⟩
theorem im_H_forgetState : Cond.instanceMethod y_H_forgetState ∈ gi_tb ∧ Cond.selects y_H_forgetState.cls y_H_forgetState y_H_forgetState ∈ gi_tb := ⟨(gi_m5 50 rfl rfl), (gi_m5 51 rfl rfl)⟩
abbrev b_H_check : ByteArray := prog_1_method_17_code
theorem my_H_check : gi_my y_H_check b_H_check 3 (some .int) 0 := ⟨(gi_m5 56 rfl rfl), (gi_m1 1 rfl rfl), by decide, by decide, by decide +kernel⟩
theorem im_H_check : Cond.instanceMethod y_H_check ∈ gi_tb ∧ Cond.selects y_H_check.cls y_H_check y_H_check ∈ gi_tb := ⟨(gi_m5 54 rfl rfl), (gi_m5 55 rfl rfl)⟩
abbrev b_H_argument : ByteArray := prog_1_method_18_code
theorem my_H_argument : gi_my y_H_argument b_H_argument 3 (some .int) 2 := ⟨(gi_m5 60 rfl rfl), (gi_m1 1 rfl rfl), by decide, by decide, by decide +kernel⟩
theorem im_H_argument : Cond.instanceMethod y_H_argument ∈ gi_tb ∧ Cond.selects y_H_argument.cls y_H_argument y_H_argument ∈ gi_tb := ⟨(gi_m5 58 rfl rfl), (gi_m5 59 rfl rfl)⟩
abbrev b_Gi_add : ByteArray := prog_4_method_2_code
theorem my_Gi_add : gi_my y_Gi_add b_Gi_add 4 (some .int) 2 := ⟨(gi_m5 64 rfl rfl), (gi_m1 10 rfl rfl), by decide, by decide, by decide +kernel⟩
theorem im_Gi_add : Cond.instanceMethod y_Gi_add ∈ gi_tb ∧ Cond.selects y_Gi_add.cls y_Gi_add y_Gi_add ∈ gi_tb := ⟨(gi_m5 62 rfl rfl), (gi_m5 63 rfl rfl)⟩
abbrev b_H_fill : ByteArray := prog_1_method_19_code
theorem my_H_fill : gi_my y_H_fill b_H_fill 4 (some .int) 3 := ⟨(gi_m5 68 rfl rfl), (gi_m1 1 rfl rfl), by decide, by decide, by decide +kernel⟩
theorem im_H_fill : Cond.instanceMethod y_H_fill ∈ gi_tb ∧ Cond.selects y_H_fill.cls y_H_fill y_H_fill ∈ gi_tb := ⟨(gi_m5 66 rfl rfl), (gi_m5 67 rfl rfl)⟩
abbrev b_Gi_put : ByteArray := prog_4_method_3_code
theorem my_Gi_put : gi_my y_Gi_put b_Gi_put 4 (some .int) 3 := ⟨(gi_m5 72 rfl rfl), (gi_m1 10 rfl rfl), by decide, by decide, by decide +kernel⟩
theorem im_Gi_put : Cond.instanceMethod y_Gi_put ∈ gi_tb ∧ Cond.selects y_Gi_put.cls y_Gi_put y_Gi_put ∈ gi_tb := ⟨(gi_m5 70 rfl rfl), (gi_m5 71 rfl rfl)⟩
abbrev b_H_forget : ByteArray := prog_1_method_20_code
theorem my_H_forget : gi_my y_H_forget b_H_forget 2 (some .int) 0 := ⟨(gi_m5 76 rfl rfl), (gi_m1 1 rfl rfl), by decide, by decide, by decide +kernel⟩
theorem im_H_forget : Cond.instanceMethod y_H_forget ∈ gi_tb ∧ Cond.selects y_H_forget.cls y_H_forget y_H_forget ∈ gi_tb := ⟨(gi_m5 74 rfl rfl), (gi_m5 75 rfl rfl)⟩
abbrev b_H_run : ByteArray := prog_1_method_21_code
theorem my_H_run : gi_my y_H_run b_H_run 3 (some .int) 2 := ⟨(gi_m5 80 rfl rfl), (gi_m1 1 rfl rfl), by decide, by decide, by decide +kernel⟩
theorem im_H_run : Cond.instanceMethod y_H_run ∈ gi_tb ∧ Cond.selects y_H_run.cls y_H_run y_H_run ∈ gi_tb := ⟨(gi_m5 78 rfl rfl), (gi_m5 79 rfl rfl)⟩
abbrev b_Gi_fits : ByteArray := prog_4_method_4_code
theorem my_Gi_fits : gi_my y_Gi_fits b_Gi_fits 4 (some .boolean) 2 := ⟨(gi_m5 84 rfl rfl), (gi_m1 10 rfl rfl), by decide, by decide, by decide +kernel⟩
theorem im_Gi_fits : Cond.instanceMethod y_Gi_fits ∈ gi_tb ∧ Cond.selects y_Gi_fits.cls y_Gi_fits y_Gi_fits ∈ gi_tb := ⟨(gi_m5 82 rfl rfl), (gi_m5 83 rfl rfl)⟩
abbrev b_Ma_make : ByteArray := prog_7_method_3_code
theorem my_Ma_make : gi_my y_Ma_make b_Ma_make 6 (some .int) 3 := ⟨(gi_m5 90 rfl rfl), (gi_m1 11 rfl rfl), by decide, by decide, by decide +kernel⟩
theorem im_Ma_make : Cond.instanceMethod y_Ma_make ∈ gi_tb ∧ Cond.selects y_Ma_make.cls y_Ma_make y_Ma_make ∈ gi_tb := ⟨(gi_m5 88 rfl rfl), (gi_m5 89 rfl rfl)⟩
abbrev b_Ma_begin : ByteArray := prog_7_method_4_code
theorem my_Ma_begin : gi_my y_Ma_begin b_Ma_begin 3 none 1 := ⟨(gi_m5 94 rfl rfl), (gi_m1 11 rfl rfl), by decide, by decide, by decide +kernel⟩
theorem im_Ma_begin : Cond.instanceMethod y_Ma_begin ∈ gi_tb ∧ Cond.selects y_Ma_begin.cls y_Ma_begin y_Ma_begin ∈ gi_tb := ⟨(gi_m5 93 rfl rfl), gi_ms 44 rfl rfl⟩
abbrev b_He_clear : ByteArray := prog_5_method_2_code
theorem my_He_clear : gi_my y_He_clear b_He_clear 1 none 0 := ⟨(gi_m5 98 rfl rfl), (gi_m1 12 rfl rfl), by decide, by decide, by decide +kernel⟩
theorem im_He_clear : Cond.instanceMethod y_He_clear ∈ gi_tb ∧ Cond.selects y_He_clear.cls y_He_clear y_He_clear ∈ gi_tb := ⟨(gi_m5 96 rfl rfl), (gi_m5 97 rfl rfl)⟩
abbrev b_Ar_fill_0 : ByteArray := prog_16_method_103_code
theorem my_Ar_fill_0 : gi_my y_Ar_fill_0 b_Ar_fill_0 4 none 2 := ⟨(gi_m5 101 rfl rfl), (gi_m1 15 rfl rfl), by decide, by decide, by decide +kernel⟩
theorem sm_Ar_fill_0 : Cond.static y_Ar_fill_0 ∈ gi_tb := (gi_m5 100 rfl rfl)
abbrev b_Ar_fill_1 : ByteArray := prog_16_method_101_code
theorem my_Ar_fill_1 : gi_my y_Ar_fill_1 b_Ar_fill_1 5 none 2 := ⟨(gi_m5 104 rfl rfl), (gi_m1 15 rfl rfl), by decide, by decide, by decide +kernel⟩
theorem sm_Ar_fill_1 : Cond.static y_Ar_fill_1 ∈ gi_tb := (gi_m5 103 rfl rfl)
abbrev b_Ma_openFrame : ByteArray := prog_7_method_6_code
theorem my_Ma_openFrame : gi_my y_Ma_openFrame b_Ma_openFrame 3 (some .boolean) 1 := ⟨(gi_m5 108 rfl rfl), (gi_m1 11 rfl rfl), by decide, by decide, by decide +kernel⟩
theorem im_Ma_openFrame : Cond.instanceMethod y_Ma_openFrame ∈ gi_tb ∧ Cond.selects y_Ma_openFrame.cls y_Ma_openFrame y_Ma_openFrame ∈ gi_tb := ⟨(gi_m5 107 rfl rfl), gi_ms 45 rfl rfl⟩
abbrev b_Gi_kindOf : ByteArray := prog_4_method_5_code
theorem my_Gi_kindOf : gi_my y_Gi_kindOf b_Gi_kindOf 2 (some .int) 1 := ⟨(gi_m5 115 rfl rfl), (gi_m1 10 rfl rfl), by decide, by decide, by decide +kernel⟩
theorem im_Gi_kindOf : Cond.instanceMethod y_Gi_kindOf ∈ gi_tb ∧ Cond.selects y_Gi_kindOf.cls y_Gi_kindOf y_Gi_kindOf ∈ gi_tb := ⟨(gi_m5 113 rfl rfl), (gi_m5 114 rfl rfl)⟩
abbrev b_Gi_valueOf : ByteArray := prog_4_method_6_code
theorem my_Gi_valueOf : gi_my y_Gi_valueOf b_Gi_valueOf 2 (some .int) 1 := ⟨(gi_m5 119 rfl rfl), (gi_m1 10 rfl rfl), by decide, by decide, by decide +kernel⟩
theorem im_Gi_valueOf : Cond.instanceMethod y_Gi_valueOf ∈ gi_tb ∧ Cond.selects y_Gi_valueOf.cls y_Gi_valueOf y_Gi_valueOf ∈ gi_tb := ⟨(gi_m5 117 rfl rfl), (gi_m5 118 rfl rfl)⟩
abbrev b_Ma_bring : ByteArray := prog_7_method_5_code
theorem my_Ma_bring : gi_my y_Ma_bring b_Ma_bring 4 (some .int) 1 := ⟨(gi_m5 123 rfl rfl), (gi_m1 11 rfl rfl), by decide, by decide, by decide +kernel⟩
theorem im_Ma_bring : Cond.instanceMethod y_Ma_bring ∈ gi_tb ∧ Cond.selects y_Ma_bring.cls y_Ma_bring y_Ma_bring ∈ gi_tb := ⟨(gi_m5 122 rfl rfl), gi_ms 46 rfl rfl⟩
abbrev b_He_add : ByteArray := prog_5_method_3_code
theorem my_He_add : gi_my y_He_add b_He_add 3 (some .int) 2 := ⟨(gi_m5 127 rfl rfl), (gi_m1 12 rfl rfl), by decide, by decide, by decide +kernel⟩
theorem im_He_add : Cond.instanceMethod y_He_add ∈ gi_tb ∧ Cond.selects y_He_add.cls y_He_add y_He_add ∈ gi_tb := ⟨(gi_m5 125 rfl rfl), (gi_m5 126 rfl rfl)⟩
abbrev b_Ar_fill_2 : ByteArray := prog_16_method_104_code
theorem my_Ar_fill_2 : gi_my y_Ar_fill_2 b_Ar_fill_2 5 none 4 := ⟨(gi_m5 130 rfl rfl), (gi_m1 15 rfl rfl), by decide, by decide, by decide +kernel⟩
theorem sm_Ar_fill_2 : Cond.static y_Ar_fill_2 ∈ gi_tb := (gi_m5 129 rfl rfl)
abbrev b_Ar_rangeCheck : ByteArray := prog_16_method_30_code
theorem my_Ar_rangeCheck : gi_my y_Ar_rangeCheck b_Ar_rangeCheck 3 none 3 := ⟨(gi_m5 133 rfl rfl), (gi_m1 15 rfl rfl), by decide, by decide, by decide +kernel⟩
theorem sm_Ar_rangeCheck : Cond.static y_Ar_rangeCheck ∈ gi_tb := (gi_m5 132 rfl rfl)
abbrev b_Gi_intAt : ByteArray := prog_4_method_7_code
theorem my_Gi_intAt : gi_my y_Gi_intAt b_Gi_intAt 3 (some .int) 2 := ⟨(gi_m5 137 rfl rfl), (gi_m1 10 rfl rfl), by decide, by decide, by decide +kernel⟩
theorem im_Gi_intAt : Cond.instanceMethod y_Gi_intAt ∈ gi_tb ∧ Cond.selects y_Gi_intAt.cls y_Gi_intAt y_Gi_intAt ∈ gi_tb := ⟨(gi_m5 135 rfl rfl), (gi_m5 136 rfl rfl)⟩
abbrev b_He_set : ByteArray := prog_5_method_9_code
theorem my_He_set : gi_my y_He_set b_He_set 4 none 3 := ⟨(gi_m5 142 rfl rfl), (gi_m1 12 rfl rfl), by decide, by decide, by decide +kernel⟩
theorem im_He_set : Cond.instanceMethod y_He_set ∈ gi_tb ∧ Cond.selects y_He_set.cls y_He_set y_He_set ∈ gi_tb := ⟨(gi_m5 140 rfl rfl), (gi_m5 141 rfl rfl)⟩
abbrev b_He_hasIndex : ByteArray := prog_5_method_7_code
theorem my_He_hasIndex : gi_my y_He_hasIndex b_He_hasIndex 3 (some .boolean) 2 := ⟨(gi_m5 146 rfl rfl), (gi_m1 12 rfl rfl), by decide, by decide, by decide +kernel⟩
theorem im_He_hasIndex : Cond.instanceMethod y_He_hasIndex ∈ gi_tb ∧ Cond.selects y_He_hasIndex.cls y_He_hasIndex y_He_hasIndex ∈ gi_tb := ⟨(gi_m5 144 rfl rfl), (gi_m5 145 rfl rfl)⟩
abbrev b_He_isArray : ByteArray := prog_5_method_4_code
theorem my_He_isArray : gi_my y_He_isArray b_He_isArray 2 (some .boolean) 1 := ⟨(gi_m5 150 rfl rfl), (gi_m1 12 rfl rfl), by decide, by decide, by decide +kernel⟩
theorem im_He_isArray : Cond.instanceMethod y_He_isArray ∈ gi_tb ∧ Cond.selects y_He_isArray.cls y_He_isArray y_He_isArray ∈ gi_tb := ⟨(gi_m5 148 rfl rfl), (gi_m5 149 rfl rfl)⟩
abbrev b_Ma_isTold : ByteArray := prog_7_method_23_code
theorem my_Ma_isTold : gi_my y_Ma_isTold b_Ma_isTold 3 (some .boolean) 0 := ⟨(gi_m5 154 rfl rfl), (gi_m1 11 rfl rfl), by decide, by decide, by decide +kernel⟩
theorem im_Ma_isTold : Cond.instanceMethod y_Ma_isTold ∈ gi_tb ∧ Cond.selects y_Ma_isTold.cls y_Ma_isTold y_Ma_isTold ∈ gi_tb := ⟨(gi_m5 153 rfl rfl), gi_ms 47 rfl rfl⟩
abbrev b_Ma_isToldBy : ByteArray := prog_7_method_24_code
theorem my_Ma_isToldBy : gi_my y_Ma_isToldBy b_Ma_isToldBy 3 (some .boolean) 2 := ⟨(gi_m5 160 rfl rfl), (gi_m1 11 rfl rfl), by decide, by decide, by decide +kernel⟩
theorem im_Ma_isToldBy : Cond.instanceMethod y_Ma_isToldBy ∈ gi_tb ∧ Cond.selects y_Ma_isToldBy.cls y_Ma_isToldBy y_Ma_isToldBy ∈ gi_tb := ⟨(gi_m5 159 rfl rfl), gi_ms 48 rfl rfl⟩
abbrev b_He_siteOf : ByteArray := prog_5_method_6_code
theorem my_He_siteOf : gi_my y_He_siteOf b_He_siteOf 2 (some .int) 1 := ⟨(gi_m5 165 rfl rfl), (gi_m1 12 rfl rfl), by decide, by decide, by decide +kernel⟩
theorem im_He_siteOf : Cond.instanceMethod y_He_siteOf ∈ gi_tb ∧ Cond.selects y_He_siteOf.cls y_He_siteOf y_He_siteOf ∈ gi_tb := ⟨(gi_m5 163 rfl rfl), (gi_m5 164 rfl rfl)⟩
abbrev b_Ma_perform : ByteArray := prog_7_method_11_code
theorem my_Ma_perform : gi_my y_Ma_perform b_Ma_perform 4 (some .int) 0 := ⟨(gi_m5 169 rfl rfl), (gi_m1 11 rfl rfl), by decide, by decide, by decide +kernel⟩
theorem im_Ma_perform : Cond.instanceMethod y_Ma_perform ∈ gi_tb ∧ Cond.selects y_Ma_perform.cls y_Ma_perform y_Ma_perform ∈ gi_tb := ⟨(gi_m5 168 rfl rfl), gi_ms 49 rfl rfl⟩
abbrev b_Ma_leave : ByteArray := prog_7_method_20_code
theorem my_Ma_leave : gi_my y_Ma_leave b_Ma_leave 3 (some .int) 0 := ⟨(gi_m5 175 rfl rfl), (gi_m1 11 rfl rfl), by decide, by decide, by decide +kernel⟩
theorem im_Ma_leave : Cond.instanceMethod y_Ma_leave ∈ gi_tb ∧ Cond.selects y_Ma_leave.cls y_Ma_leave y_Ma_leave ∈ gi_tb := ⟨(gi_m5 174 rfl rfl), gi_ms 50 rfl rfl⟩
abbrev b_Ma_pop : ByteArray := prog_7_method_7_code
theorem my_Ma_pop : gi_my y_Ma_pop b_Ma_pop 1 (some .int) 0 := ⟨(gi_m5 180 rfl rfl), (gi_m1 11 rfl rfl), by decide, by decide, by decide +kernel⟩
theorem im_Ma_pop : Cond.instanceMethod y_Ma_pop ∈ gi_tb ∧ Cond.selects y_Ma_pop.cls y_Ma_pop y_Ma_pop ∈ gi_tb := ⟨(gi_m5 179 rfl rfl), gi_ms 51 rfl rfl⟩
abbrev b_He_lengthOf : ByteArray := prog_5_method_5_code
theorem my_He_lengthOf : gi_my y_He_lengthOf b_He_lengthOf 2 (some .int) 1 := ⟨(gi_m5 184 rfl rfl), (gi_m1 12 rfl rfl), by decide, by decide, by decide +kernel⟩
theorem im_He_lengthOf : Cond.instanceMethod y_He_lengthOf ∈ gi_tb ∧ Cond.selects y_He_lengthOf.cls y_He_lengthOf y_He_lengthOf ∈ gi_tb := ⟨(gi_m5 182 rfl rfl), (gi_m5 183 rfl rfl)⟩
abbrev b_Ma_push : ByteArray := prog_7_method_8_code
theorem my_Ma_push : gi_my y_Ma_push b_Ma_push 2 none 1 := ⟨(gi_m5 188 rfl rfl), (gi_m1 11 rfl rfl), by decide, by decide, by decide +kernel⟩
theorem im_Ma_push : Cond.instanceMethod y_Ma_push ∈ gi_tb ∧ Cond.selects y_Ma_push.cls y_Ma_push y_Ma_push ∈ gi_tb := ⟨(gi_m5 187 rfl rfl), gi_ms 52 rfl rfl⟩
abbrev b_Ma_move : ByteArray := prog_7_method_12_code
theorem my_Ma_move : gi_my y_Ma_move b_Ma_move 5 (some .int) 2 := ⟨(gi_m5 192 rfl rfl), (gi_m1 11 rfl rfl), by decide, by decide, by decide +kernel⟩
theorem im_Ma_move : Cond.instanceMethod y_Ma_move ∈ gi_tb ∧ Cond.selects y_Ma_move.cls y_Ma_move y_Ma_move ∈ gi_tb := ⟨(gi_m5 191 rfl rfl), gi_ms 53 rfl rfl⟩
abbrev b_Ma_hasLocal : ByteArray := prog_7_method_9_code
theorem my_Ma_hasLocal : gi_my y_Ma_hasLocal b_Ma_hasLocal 2 (some .boolean) 1 := ⟨(gi_m5 196 rfl rfl), (gi_m1 11 rfl rfl), by decide, by decide, by decide +kernel⟩
theorem im_Ma_hasLocal : Cond.instanceMethod y_Ma_hasLocal ∈ gi_tb ∧ Cond.selects y_Ma_hasLocal.cls y_Ma_hasLocal y_Ma_hasLocal ∈ gi_tb := ⟨(gi_m5 195 rfl rfl), gi_ms 54 rfl rfl⟩
abbrev b_Ma_reckon : ByteArray := prog_7_method_13_code
theorem my_Ma_reckon : gi_my y_Ma_reckon b_Ma_reckon 4 (some .int) 1 := ⟨(gi_m5 200 rfl rfl), (gi_m1 11 rfl rfl), by decide, by decide, by decide +kernel⟩
theorem im_Ma_reckon : Cond.instanceMethod y_Ma_reckon ∈ gi_tb ∧ Cond.selects y_Ma_reckon.cls y_Ma_reckon y_Ma_reckon ∈ gi_tb := ⟨(gi_m5 199 rfl rfl), gi_ms 55 rfl rfl⟩
abbrev b_Ma_goWrong : ByteArray := prog_7_method_10_code
theorem my_Ma_goWrong : gi_my y_Ma_goWrong b_Ma_goWrong 2 (some .int) 1 := ⟨(gi_m5 204 rfl rfl), (gi_m1 11 rfl rfl), by decide, by decide, by decide +kernel⟩
theorem im_Ma_goWrong : Cond.instanceMethod y_Ma_goWrong ∈ gi_tb ∧ Cond.selects y_Ma_goWrong.cls y_Ma_goWrong y_Ma_goWrong ∈ gi_tb := ⟨(gi_m5 203 rfl rfl), gi_ms 56 rfl rfl⟩
abbrev b_Ma_reckoned : ByteArray := prog_7_method_14_code
theorem my_Ma_reckoned : gi_my y_Ma_reckoned b_Ma_reckoned 3 (some .int) 3 := ⟨(gi_m5 207 rfl rfl), (gi_m1 11 rfl rfl), by decide, by decide, by decide +kernel⟩
theorem sm_Ma_reckoned : Cond.static y_Ma_reckoned ∈ gi_tb := (gi_m5 206 rfl rfl)
abbrev b_Ma_jump : ByteArray := prog_7_method_15_code
theorem my_Ma_jump : gi_my y_Ma_jump b_Ma_jump 6 (some .int) 2 := ⟨(gi_m5 211 rfl rfl), (gi_m1 11 rfl rfl), by decide, by decide, by decide +kernel⟩
theorem im_Ma_jump : Cond.instanceMethod y_Ma_jump ∈ gi_tb ∧ Cond.selects y_Ma_jump.cls y_Ma_jump y_Ma_jump ∈ gi_tb := ⟨(gi_m5 210 rfl rfl), gi_ms 57 rfl rfl⟩
abbrev b_Ma_compares : ByteArray := prog_7_method_16_code
theorem my_Ma_compares : gi_my y_Ma_compares b_Ma_compares 3 (some .boolean) 3 := ⟨(gi_m5 214 rfl rfl), (gi_m1 11 rfl rfl), by decide, by decide, by decide +kernel⟩
theorem sm_Ma_compares : Cond.static y_Ma_compares ∈ gi_tb := (gi_m5 213 rfl rfl)
abbrev b_Ma_makeArray : ByteArray := prog_7_method_17_code
theorem my_Ma_makeArray : gi_my y_Ma_makeArray b_Ma_makeArray 5 (some .int) 1 := ⟨(gi_m5 218 rfl rfl), (gi_m1 11 rfl rfl), by decide, by decide, by decide +kernel⟩
theorem im_Ma_makeArray : Cond.instanceMethod y_Ma_makeArray ∈ gi_tb ∧ Cond.selects y_Ma_makeArray.cls y_Ma_makeArray y_Ma_makeArray ∈ gi_tb := ⟨(gi_m5 217 rfl rfl), gi_ms 58 rfl rfl⟩
abbrev b_Ma_tells : ByteArray := prog_7_method_22_code
theorem my_Ma_tells : gi_my y_Ma_tells b_Ma_tells 2 (some .boolean) 2 := ⟨(gi_m5 223 rfl rfl), (gi_m1 11 rfl rfl), by decide, by decide, by decide +kernel⟩
theorem sm_Ma_tells : Cond.static y_Ma_tells ∈ gi_tb := (gi_m5 222 rfl rfl)
abbrev b_Ma_useArray : ByteArray := prog_7_method_18_code
theorem my_Ma_useArray : gi_my y_Ma_useArray b_Ma_useArray 5 (some .int) 1 := ⟨(gi_m5 228 rfl rfl), (gi_m1 11 rfl rfl), by decide, by decide, by decide +kernel⟩
theorem im_Ma_useArray : Cond.instanceMethod y_Ma_useArray ∈ gi_tb ∧ Cond.selects y_Ma_useArray.cls y_Ma_useArray y_Ma_useArray ∈ gi_tb := ⟨(gi_m5 227 rfl rfl), gi_ms 59 rfl rfl⟩
abbrev b_He_get : ByteArray := prog_5_method_8_code
theorem my_He_get : gi_my y_He_get b_He_get 3 (some .int) 2 := ⟨(gi_m5 234 rfl rfl), (gi_m1 12 rfl rfl), by decide, by decide, by decide +kernel⟩
theorem im_He_get : Cond.instanceMethod y_He_get ∈ gi_tb ∧ Cond.selects y_He_get.cls y_He_get y_He_get ∈ gi_tb := ⟨(gi_m5 232 rfl rfl), (gi_m5 233 rfl rfl)⟩
abbrev b_Ma_enter : ByteArray := prog_7_method_19_code
theorem my_Ma_enter : gi_my y_Ma_enter b_Ma_enter 5 (some .int) 1 := ⟨(gi_m5 238 rfl rfl), (gi_m1 11 rfl rfl), by decide, by decide, by decide +kernel⟩
theorem im_Ma_enter : Cond.instanceMethod y_Ma_enter ∈ gi_tb ∧ Cond.selects y_Ma_enter.cls y_Ma_enter y_Ma_enter ∈ gi_tb := ⟨(gi_m5 237 rfl rfl), gi_ms 60 rfl rfl⟩
abbrev b_Mt_max_1 : ByteArray := prog_15_method_65_code
theorem my_Mt_max_1 : gi_my y_Mt_max_1 b_Mt_max_1 2 (some .int) 2 := ⟨(gi_m6 1 rfl rfl), (gi_m1 14 rfl rfl), by decide, by decide, by decide +kernel⟩
theorem sm_Mt_max_1 : Cond.static y_Mt_max_1 ∈ gi_tb := (gi_m6 0 rfl rfl)
abbrev b_Ma_useField : ByteArray := prog_7_method_21_code
theorem my_Ma_useField : gi_my y_Ma_useField b_Ma_useField 3 (some .int) 2 := ⟨(gi_m6 5 rfl rfl), (gi_m1 11 rfl rfl), by decide, by decide, by decide +kernel⟩
theorem im_Ma_useField : Cond.instanceMethod y_Ma_useField ∈ gi_tb ∧ Cond.selects y_Ma_useField.cls y_Ma_useField y_Ma_useField ∈ gi_tb := ⟨(gi_m6 4 rfl rfl), gi_ms 61 rfl rfl⟩
abbrev b_H_ran : ByteArray := prog_1_method_22_code
theorem my_H_ran : gi_my y_H_ran b_H_ran 2 (some .long) 1 := ⟨(gi_m6 10 rfl rfl), (gi_m1 1 rfl rfl), by decide, by decide, by decide +kernel⟩
theorem im_H_ran : Cond.instanceMethod y_H_ran ∈ gi_tb ∧ Cond.selects y_H_ran.cls y_H_ran y_H_ran ∈ gi_tb := ⟨(gi_m6 8 rfl rfl), (gi_m6 9 rfl rfl)⟩
abbrev b_Ma_told : ByteArray := prog_7_method_2_code
theorem my_Ma_told : gi_my y_Ma_told b_Ma_told 2 (some .long) 1 := ⟨(gi_m6 14 rfl rfl), (gi_m1 11 rfl rfl), by decide, by decide, by decide +kernel⟩
theorem im_Ma_told : Cond.instanceMethod y_Ma_told ∈ gi_tb ∧ Cond.selects y_Ma_told.cls y_Ma_told y_Ma_told ∈ gi_tb := ⟨(gi_m6 12 rfl rfl), (gi_m6 13 rfl rfl)⟩
abbrev b_H_outside : ByteArray := prog_1_method_23_code
theorem my_H_outside : gi_my y_H_outside b_H_outside 1 (some .int) 0 := ⟨(gi_m6 19 rfl rfl), (gi_m1 1 rfl rfl), by decide, by decide, by decide +kernel⟩
theorem im_H_outside : Cond.instanceMethod y_H_outside ∈ gi_tb ∧ Cond.selects y_H_outside.cls y_H_outside y_H_outside ∈ gi_tb := ⟨(gi_m6 17 rfl rfl), (gi_m6 18 rfl rfl)⟩
abbrev b_Mo_init : ByteArray := prog_14_method_1_code
theorem my_Mo_init : gi_my y_Mo_init b_Mo_init 1 none 0 := ⟨(gi_m6 24 rfl rfl), (gi_m1 13 rfl rfl), by decide, by decide, by decide +kernel⟩
theorem im_Mo_init : Cond.instanceMethod y_Mo_init ∈ gi_tb := (gi_m6 23 rfl rfl)
abbrev b_Mo_method : ByteArray := prog_14_method_3_code
theorem my_Mo_method : gi_my y_Mo_method b_Mo_method 6 (some .int) 4 := ⟨(gi_m7 58 rfl rfl), (gi_m1 13 rfl rfl), by decide, by decide, by decide +kernel⟩
theorem im_Mo_method : Cond.instanceMethod y_Mo_method ∈ gi_tb ∧ Cond.selects y_Mo_method.cls y_Mo_method y_Mo_method ∈ gi_tb := ⟨(gi_m7 56 rfl rfl), (gi_m7 57 rfl rfl)⟩
abbrev b_Mo_code : ByteArray := prog_14_method_5_code
theorem my_Mo_code : gi_my y_Mo_code b_Mo_code 5 (some .int) 3 := ⟨(gi_m7 62 rfl rfl), (gi_m1 13 rfl rfl), by decide, by decide, by decide +kernel⟩
theorem im_Mo_code : Cond.instanceMethod y_Mo_code ∈ gi_tb ∧ Cond.selects y_Mo_code.cls y_Mo_code y_Mo_code ∈ gi_tb := ⟨(gi_m7 60 rfl rfl), (gi_m7 61 rfl rfl)⟩
abbrev b_Mo_isMethod : ByteArray := prog_14_method_4_code
theorem my_Mo_isMethod : gi_my y_Mo_isMethod b_Mo_isMethod 2 (some .boolean) 1 := ⟨(gi_m7 66 rfl rfl), (gi_m1 13 rfl rfl), by decide, by decide, by decide +kernel⟩
theorem im_Mo_isMethod : Cond.instanceMethod y_Mo_isMethod ∈ gi_tb ∧ Cond.selects y_Mo_isMethod.cls y_Mo_isMethod y_Mo_isMethod ∈ gi_tb := ⟨(gi_m7 65 rfl rfl), gi_ms 62 rfl rfl⟩
abbrev b_Mo_wipe : ByteArray := prog_14_method_6_code
theorem my_Mo_wipe : gi_my y_Mo_wipe b_Mo_wipe 3 (some .int) 1 := ⟨(gi_m7 70 rfl rfl), (gi_m1 13 rfl rfl), by decide, by decide, by decide +kernel⟩
theorem im_Mo_wipe : Cond.instanceMethod y_Mo_wipe ∈ gi_tb ∧ Cond.selects y_Mo_wipe.cls y_Mo_wipe y_Mo_wipe ∈ gi_tb := ⟨(gi_m7 68 rfl rfl), (gi_m7 69 rfl rfl)⟩
abbrev b_Mo_build : ByteArray := prog_14_method_16_code
theorem my_Mo_build : gi_my y_Mo_build b_Mo_build 4 (some .int) 0 := ⟨(gi_m7 74 rfl rfl), (gi_m1 13 rfl rfl), by decide, by decide, by decide +kernel⟩
theorem im_Mo_build : Cond.instanceMethod y_Mo_build ∈ gi_tb ∧ Cond.selects y_Mo_build.cls y_Mo_build y_Mo_build ∈ gi_tb := ⟨(gi_m7 72 rfl rfl), (gi_m7 73 rfl rfl)⟩
abbrev b_Mo_isOperand : ByteArray := prog_14_method_15_code
theorem my_Mo_isOperand : gi_my y_Mo_isOperand b_Mo_isOperand 4 (some .boolean) 3 := ⟨(gi_m7 78 rfl rfl), (gi_m1 13 rfl rfl), by decide, by decide, by decide +kernel⟩
theorem im_Mo_isOperand : Cond.instanceMethod y_Mo_isOperand ∈ gi_tb ∧ Cond.selects y_Mo_isOperand.cls y_Mo_isOperand y_Mo_isOperand ∈ gi_tb := ⟨(gi_m7 77 rfl rfl), gi_ms 63 rfl rfl⟩
abbrev b_Mo_goesTo : ByteArray := prog_14_method_13_code
theorem my_Mo_goesTo : gi_my y_Mo_goesTo b_Mo_goesTo 1 (some .boolean) 1 := ⟨(gi_m7 81 rfl rfl), (gi_m1 13 rfl rfl), by decide, by decide, by decide +kernel⟩
theorem sm_Mo_goesTo : Cond.static y_Mo_goesTo ∈ gi_tb := (gi_m7 80 rfl rfl)
abbrev b_Mo_fault : ByteArray := prog_14_method_7_code
theorem my_Mo_fault : gi_my y_Mo_fault b_Mo_fault 4 (some .int) 3 := ⟨(gi_m7 85 rfl rfl), (gi_m1 13 rfl rfl), by decide, by decide, by decide +kernel⟩
theorem im_Mo_fault : Cond.instanceMethod y_Mo_fault ∈ gi_tb ∧ Cond.selects y_Mo_fault.cls y_Mo_fault y_Mo_fault ∈ gi_tb := ⟨(gi_m7 84 rfl rfl), gi_ms 64 rfl rfl⟩
abbrev b_Mo_shapes : ByteArray := prog_14_method_17_code
theorem my_Mo_shapes : gi_my y_Mo_shapes b_Mo_shapes 5 (some .int) 1 := ⟨(gi_m7 89 rfl rfl), (gi_m1 13 rfl rfl), by decide, by decide, by decide +kernel⟩
theorem im_Mo_shapes : Cond.instanceMethod y_Mo_shapes ∈ gi_tb ∧ Cond.selects y_Mo_shapes.cls y_Mo_shapes y_Mo_shapes ∈ gi_tb := ⟨(gi_m7 88 rfl rfl), gi_ms 65 rfl rfl⟩
abbrev b_Mo_shape : ByteArray := prog_14_method_12_code
theorem my_Mo_shape : gi_my y_Mo_shape b_Mo_shape 6 none 3 := ⟨(gi_m7 93 rfl rfl), (gi_m1 13 rfl rfl), by decide, by decide, by decide +kernel⟩
theorem im_Mo_shape : Cond.instanceMethod y_Mo_shape ∈ gi_tb ∧ Cond.selects y_Mo_shape.cls y_Mo_shape y_Mo_shape ∈ gi_tb := ⟨(gi_m7 92 rfl rfl), gi_ms 66 rfl rfl⟩
abbrev b_Mo_puts : ByteArray := prog_14_method_10_code
theorem my_Mo_puts : gi_my y_Mo_puts b_Mo_puts 2 none 1 := ⟨(gi_m7 97 rfl rfl), (gi_m1 13 rfl rfl), by decide, by decide, by decide +kernel⟩
theorem im_Mo_puts : Cond.instanceMethod y_Mo_puts ∈ gi_tb ∧ Cond.selects y_Mo_puts.cls y_Mo_puts y_Mo_puts ∈ gi_tb := ⟨(gi_m7 96 rfl rfl), gi_ms 67 rfl rfl⟩
abbrev b_Mo_kindOf : ByteArray := prog_14_method_11_code
theorem my_Mo_kindOf : gi_my y_Mo_kindOf b_Mo_kindOf 3 (some .int) 2 := ⟨(gi_m7 101 rfl rfl), (gi_m1 13 rfl rfl), by decide, by decide, by decide +kernel⟩
theorem im_Mo_kindOf : Cond.instanceMethod y_Mo_kindOf ∈ gi_tb ∧ Cond.selects y_Mo_kindOf.cls y_Mo_kindOf y_Mo_kindOf ∈ gi_tb := ⟨(gi_m7 100 rfl rfl), gi_ms 68 rfl rfl⟩
abbrev b_Mo_takes : ByteArray := prog_14_method_8_code
theorem my_Mo_takes : gi_my y_Mo_takes b_Mo_takes 2 none 1 := ⟨(gi_m7 105 rfl rfl), (gi_m1 13 rfl rfl), by decide, by decide, by decide +kernel⟩
theorem im_Mo_takes : Cond.instanceMethod y_Mo_takes ∈ gi_tb ∧ Cond.selects y_Mo_takes.cls y_Mo_takes y_Mo_takes ∈ gi_tb := ⟨(gi_m7 104 rfl rfl), gi_ms 69 rfl rfl⟩
abbrev b_Mo_takesAny : ByteArray := prog_14_method_9_code
theorem my_Mo_takesAny : gi_my y_Mo_takesAny b_Mo_takesAny 2 (some .int) 0 := ⟨(gi_m7 109 rfl rfl), (gi_m1 13 rfl rfl), by decide, by decide, by decide +kernel⟩
theorem im_Mo_takesAny : Cond.instanceMethod y_Mo_takesAny ∈ gi_tb ∧ Cond.selects y_Mo_takesAny.cls y_Mo_takesAny y_Mo_takesAny ∈ gi_tb := ⟨(gi_m7 108 rfl rfl), gi_ms 70 rfl rfl⟩
abbrev b_Mo_goesOn : ByteArray := prog_14_method_14_code
theorem my_Mo_goesOn : gi_my y_Mo_goesOn b_Mo_goesOn 1 (some .boolean) 1 := ⟨(gi_m7 112 rfl rfl), (gi_m1 13 rfl rfl), by decide, by decide, by decide +kernel⟩
theorem sm_Mo_goesOn : Cond.static y_Mo_goesOn ∈ gi_tb := (gi_m7 111 rfl rfl)
abbrev b_Mo_comes : ByteArray := prog_14_method_18_code
theorem my_Mo_comes : gi_my y_Mo_comes b_Mo_comes 5 (some .int) 3 := ⟨(gi_m7 116 rfl rfl), (gi_m1 13 rfl rfl), by decide, by decide, by decide +kernel⟩
theorem im_Mo_comes : Cond.instanceMethod y_Mo_comes ∈ gi_tb ∧ Cond.selects y_Mo_comes.cls y_Mo_comes y_Mo_comes ∈ gi_tb := ⟨(gi_m7 115 rfl rfl), gi_ms 71 rfl rfl⟩
abbrev b_Mo_faultAt : ByteArray := prog_14_method_19_code
theorem my_Mo_faultAt : gi_my y_Mo_faultAt b_Mo_faultAt 2 (some .int) 1 := ⟨(gi_m7 120 rfl rfl), (gi_m1 13 rfl rfl), by decide, by decide, by decide +kernel⟩
theorem im_Mo_faultAt : Cond.instanceMethod y_Mo_faultAt ∈ gi_tb ∧ Cond.selects y_Mo_faultAt.cls y_Mo_faultAt y_Mo_faultAt ∈ gi_tb := ⟨(gi_m7 118 rfl rfl), (gi_m7 119 rfl rfl)⟩
abbrev b_Mo_analyze : ByteArray := prog_14_method_74_code
theorem my_Mo_analyze : gi_my y_Mo_analyze b_Mo_analyze 4 (some .int) 1 := ⟨(gi_m7 124 rfl rfl), (gi_m1 13 rfl rfl), by decide, by decide, by decide +kernel⟩
theorem im_Mo_analyze : Cond.instanceMethod y_Mo_analyze ∈ gi_tb ∧ Cond.selects y_Mo_analyze.cls y_Mo_analyze y_Mo_analyze ∈ gi_tb := ⟨(gi_m7 122 rfl rfl), (gi_m7 123 rfl rfl)⟩
abbrev b_Mo_nothing : ByteArray := prog_14_method_72_code
theorem my_Mo_nothing : gi_my y_Mo_nothing b_Mo_nothing 2 none 0 := ⟨(gi_m7 128 rfl rfl), (gi_m1 13 rfl rfl), by decide, by decide, by decide +kernel⟩
theorem im_Mo_nothing : Cond.instanceMethod y_Mo_nothing ∈ gi_tb ∧ Cond.selects y_Mo_nothing.cls y_Mo_nothing y_Mo_nothing ∈ gi_tb := ⟨(gi_m7 127 rfl rfl), gi_ms 72 rfl rfl⟩
abbrev b_Mo_rootsCome : ByteArray := prog_14_method_73_code
theorem my_Mo_rootsCome : gi_my y_Mo_rootsCome b_Mo_rootsCome 2 none 0 := ⟨(gi_m7 134 rfl rfl), (gi_m1 13 rfl rfl), by decide, by decide, by decide +kernel⟩
theorem im_Mo_rootsCome : Cond.instanceMethod y_Mo_rootsCome ∈ gi_tb ∧ Cond.selects y_Mo_rootsCome.cls y_Mo_rootsCome y_Mo_rootsCome ∈ gi_tb := ⟨(gi_m7 133 rfl rfl), gi_ms 73 rfl rfl⟩
abbrev b_Mo_root : ByteArray := prog_14_method_71_code
theorem my_Mo_root : gi_my y_Mo_root b_Mo_root 3 none 1 := ⟨(gi_m7 138 rfl rfl), (gi_m1 13 rfl rfl), by decide, by decide, by decide +kernel⟩
theorem im_Mo_root : Cond.instanceMethod y_Mo_root ∈ gi_tb ∧ Cond.selects y_Mo_root.cls y_Mo_root y_Mo_root ∈ gi_tb := ⟨(gi_m7 137 rfl rfl), gi_ms 74 rfl rfl⟩
abbrev b_Mo_span : ByteArray := prog_14_method_46_code
theorem my_Mo_span : gi_my y_Mo_span b_Mo_span 8 none 4 := ⟨(gi_m7 142 rfl rfl), (gi_m1 13 rfl rfl), by decide, by decide, by decide +kernel⟩
theorem im_Mo_span : Cond.instanceMethod y_Mo_span ∈ gi_tb ∧ Cond.selects y_Mo_span.cls y_Mo_span y_Mo_span ∈ gi_tb := ⟨(gi_m7 141 rfl rfl), gi_ms 75 rfl rfl⟩
abbrev b_Mo_setOf : ByteArray := prog_14_method_47_code
theorem my_Mo_setOf : gi_my y_Mo_setOf b_Mo_setOf 4 none 3 := ⟨(gi_m7 146 rfl rfl), (gi_m1 13 rfl rfl), by decide, by decide, by decide +kernel⟩
theorem im_Mo_setOf : Cond.instanceMethod y_Mo_setOf ∈ gi_tb ∧ Cond.selects y_Mo_setOf.cls y_Mo_setOf y_Mo_setOf ∈ gi_tb := ⟨(gi_m7 145 rfl rfl), gi_ms 76 rfl rfl⟩
abbrev b_Mo_comeTo : ByteArray := prog_14_method_54_code
theorem my_Mo_comeTo : gi_my y_Mo_comeTo b_Mo_comeTo 7 none 1 := ⟨(gi_m7 150 rfl rfl), (gi_m1 13 rfl rfl), by decide, by decide, by decide +kernel⟩
theorem im_Mo_comeTo : Cond.instanceMethod y_Mo_comeTo ∈ gi_tb ∧ Cond.selects y_Mo_comeTo.cls y_Mo_comeTo y_Mo_comeTo ∈ gi_tb := ⟨(gi_m7 149 rfl rfl), gi_ms 77 rfl rfl⟩
abbrev b_Mo_isHeld : ByteArray := prog_14_method_55_code
theorem my_Mo_isHeld : gi_my y_Mo_isHeld b_Mo_isHeld 5 (some .boolean) 1 := ⟨(gi_m7 154 rfl rfl), (gi_m1 13 rfl rfl), by decide, by decide, by decide +kernel⟩
theorem im_Mo_isHeld : Cond.instanceMethod y_Mo_isHeld ∈ gi_tb ∧ Cond.selects y_Mo_isHeld.cls y_Mo_isHeld y_Mo_isHeld ∈ gi_tb := ⟨(gi_m7 153 rfl rfl), gi_ms 78 rfl rfl⟩
abbrev b_Mo_isSlot : ByteArray := prog_14_method_42_code
theorem my_Mo_isSlot : gi_my y_Mo_isSlot b_Mo_isSlot 3 (some .boolean) 2 := ⟨(gi_m7 158 rfl rfl), (gi_m1 13 rfl rfl), by decide, by decide, by decide +kernel⟩
theorem im_Mo_isSlot : Cond.instanceMethod y_Mo_isSlot ∈ gi_tb ∧ Cond.selects y_Mo_isSlot.cls y_Mo_isSlot y_Mo_isSlot ∈ gi_tb := ⟨(gi_m7 157 rfl rfl), gi_ms 79 rfl rfl⟩
abbrev b_Mo_isArray : ByteArray := prog_14_method_41_code
theorem my_Mo_isArray : gi_my y_Mo_isArray b_Mo_isArray 3 (some .boolean) 2 := ⟨(gi_m7 162 rfl rfl), (gi_m1 13 rfl rfl), by decide, by decide, by decide +kernel⟩
theorem im_Mo_isArray : Cond.instanceMethod y_Mo_isArray ∈ gi_tb ∧ Cond.selects y_Mo_isArray.cls y_Mo_isArray y_Mo_isArray ∈ gi_tb := ⟨(gi_m7 161 rfl rfl), gi_ms 80 rfl rfl⟩
abbrev b_Mo_isIn : ByteArray := prog_14_method_31_code
theorem my_Mo_isIn : gi_my y_Mo_isIn b_Mo_isIn 12 (some .boolean) 6 := ⟨(gi_m7 165 rfl rfl), (gi_m1 13 rfl rfl), by decide, by decide, by decide +kernel⟩
theorem sm_Mo_isIn : Cond.static y_Mo_isIn ∈ gi_tb := (gi_m7 164 rfl rfl)
abbrev b_Mo_both : ByteArray := prog_14_method_24_code
theorem my_Mo_both : gi_my y_Mo_both b_Mo_both 13 none 6 := ⟨(gi_m7 169 rfl rfl), (gi_m1 13 rfl rfl), by decide, by decide, by decide +kernel⟩
theorem im_Mo_both : Cond.instanceMethod y_Mo_both ∈ gi_tb ∧ Cond.selects y_Mo_both.cls y_Mo_both y_Mo_both ∈ gi_tb := ⟨(gi_m7 168 rfl rfl), gi_ms 81 rfl rfl⟩
abbrev b_Mo_min : ByteArray := prog_14_method_21_code
theorem my_Mo_min : gi_my y_Mo_min b_Mo_min 4 (some .long) 2 := ⟨(gi_m7 172 rfl rfl), (gi_m1 13 rfl rfl), by decide, by decide, by decide +kernel⟩
theorem sm_Mo_min : Cond.static y_Mo_min ∈ gi_tb := (gi_m7 171 rfl rfl)
abbrev b_Mo_max : ByteArray := prog_14_method_22_code
theorem my_Mo_max : gi_my y_Mo_max b_Mo_max 4 (some .long) 2 := ⟨(gi_m7 175 rfl rfl), (gi_m1 13 rfl rfl), by decide, by decide, by decide +kernel⟩
theorem sm_Mo_max : Cond.static y_Mo_max ∈ gi_tb := (gi_m7 174 rfl rfl)
abbrev b_Mo_gcd : ByteArray := prog_14_method_20_code
theorem my_Mo_gcd : gi_my y_Mo_gcd b_Mo_gcd 10 (some .long) 2 := ⟨(gi_m7 178 rfl rfl), (gi_m1 13 rfl rfl), by decide, by decide, by decide +kernel⟩
theorem sm_Mo_gcd : Cond.static y_Mo_gcd ∈ gi_tb := (gi_m7 177 rfl rfl)
abbrev b_Mo_set : ByteArray := prog_14_method_23_code
theorem my_Mo_set : gi_my y_Mo_set b_Mo_set 7 none 3 := ⟨(gi_m7 182 rfl rfl), (gi_m1 13 rfl rfl), by decide, by decide, by decide +kernel⟩
theorem im_Mo_set : Cond.instanceMethod y_Mo_set ∈ gi_tb ∧ Cond.selects y_Mo_set.cls y_Mo_set y_Mo_set ∈ gi_tb := ⟨(gi_m7 181 rfl rfl), gi_ms 82 rfl rfl⟩
abbrev b_Mo_moved : ByteArray := prog_14_method_53_code
theorem my_Mo_moved : gi_my y_Mo_moved b_Mo_moved 9 none 2 := ⟨(gi_m7 186 rfl rfl), (gi_m1 13 rfl rfl), by decide, by decide, by decide +kernel⟩
theorem im_Mo_moved : Cond.instanceMethod y_Mo_moved ∈ gi_tb ∧ Cond.selects y_Mo_moved.cls y_Mo_moved y_Mo_moved ∈ gi_tb := ⟨(gi_m7 185 rfl rfl), gi_ms 83 rfl rfl⟩
abbrev b_Mo_pointBelow : ByteArray := prog_14_method_51_code
theorem my_Mo_pointBelow : gi_my y_Mo_pointBelow b_Mo_pointBelow 2 (some .long) 1 := ⟨(gi_m7 189 rfl rfl), (gi_m1 13 rfl rfl), by decide, by decide, by decide +kernel⟩
theorem sm_Mo_pointBelow : Cond.static y_Mo_pointBelow ∈ gi_tb := (gi_m7 188 rfl rfl)
abbrev b_Mo_pointAbove : ByteArray := prog_14_method_52_code
theorem my_Mo_pointAbove : gi_my y_Mo_pointAbove b_Mo_pointAbove 2 (some .long) 1 := ⟨(gi_m7 199 rfl rfl), (gi_m1 13 rfl rfl), by decide, by decide, by decide +kernel⟩
theorem sm_Mo_pointAbove : Cond.static y_Mo_pointAbove ∈ gi_tb := (gi_m7 198 rfl rfl)
abbrev b_Mo_step : ByteArray := prog_14_method_61_code
theorem my_Mo_step : gi_my y_Mo_step b_Mo_step 7 none 1 := ⟨(gi_m7 203 rfl rfl), (gi_m1 13 rfl rfl), by decide, by decide, by decide +kernel⟩
theorem im_Mo_step : Cond.instanceMethod y_Mo_step ∈ gi_tb ∧ Cond.selects y_Mo_step.cls y_Mo_step y_Mo_step ∈ gi_tb := ⟨(gi_m7 202 rfl rfl), gi_ms 84 rfl rfl⟩
abbrev b_Mo_load : ByteArray := prog_14_method_45_code
theorem my_Mo_load : gi_my y_Mo_load b_Mo_load 4 none 1 := ⟨(gi_m7 207 rfl rfl), (gi_m1 13 rfl rfl), by decide, by decide, by decide +kernel⟩
theorem im_Mo_load : Cond.instanceMethod y_Mo_load ∈ gi_tb ∧ Cond.selects y_Mo_load.cls y_Mo_load y_Mo_load ∈ gi_tb := ⟨(gi_m7 206 rfl rfl), gi_ms 85 rfl rfl⟩
abbrev b_Mo_pushSpan : ByteArray := prog_14_method_48_code
theorem my_Mo_pushSpan : gi_my y_Mo_pushSpan b_Mo_pushSpan 7 none 3 := ⟨(gi_m7 211 rfl rfl), (gi_m1 13 rfl rfl), by decide, by decide, by decide +kernel⟩
theorem im_Mo_pushSpan : Cond.instanceMethod y_Mo_pushSpan ∈ gi_tb ∧ Cond.selects y_Mo_pushSpan.cls y_Mo_pushSpan y_Mo_pushSpan ∈ gi_tb := ⟨(gi_m7 210 rfl rfl), gi_ms 86 rfl rfl⟩
abbrev b_Mo_copy : ByteArray := prog_14_method_50_code
theorem my_Mo_copy : gi_my y_Mo_copy b_Mo_copy 3 none 2 := ⟨(gi_m7 215 rfl rfl), (gi_m1 13 rfl rfl), by decide, by decide, by decide +kernel⟩
theorem im_Mo_copy : Cond.instanceMethod y_Mo_copy ∈ gi_tb ∧ Cond.selects y_Mo_copy.cls y_Mo_copy y_Mo_copy ∈ gi_tb := ⟨(gi_m7 214 rfl rfl), gi_ms 87 rfl rfl⟩
abbrev b_Mo_pushSet : ByteArray := prog_14_method_49_code
theorem my_Mo_pushSet : gi_my y_Mo_pushSet b_Mo_pushSet 3 none 2 := ⟨(gi_m7 219 rfl rfl), (gi_m1 13 rfl rfl), by decide, by decide, by decide +kernel⟩
theorem im_Mo_pushSet : Cond.instanceMethod y_Mo_pushSet ∈ gi_tb ∧ Cond.selects y_Mo_pushSet.cls y_Mo_pushSet y_Mo_pushSet ∈ gi_tb := ⟨(gi_m7 218 rfl rfl), gi_ms 88 rfl rfl⟩
abbrev b_Mo_swap : ByteArray := prog_14_method_62_code
theorem my_Mo_swap : gi_my y_Mo_swap b_Mo_swap 12 none 0 := ⟨(gi_m7 223 rfl rfl), (gi_m1 13 rfl rfl), by decide, by decide, by decide +kernel⟩
theorem im_Mo_swap : Cond.instanceMethod y_Mo_swap ∈ gi_tb ∧ Cond.selects y_Mo_swap.cls y_Mo_swap y_Mo_swap ∈ gi_tb := ⟨(gi_m7 222 rfl rfl), gi_ms 89 rfl rfl⟩
abbrev b_Mo_keep : ByteArray := prog_14_method_43_code
theorem my_Mo_keep : gi_my y_Mo_keep b_Mo_keep 2 none 0 := ⟨(gi_m7 227 rfl rfl), (gi_m1 13 rfl rfl), by decide, by decide, by decide +kernel⟩
theorem im_Mo_keep : Cond.instanceMethod y_Mo_keep ∈ gi_tb ∧ Cond.selects y_Mo_keep.cls y_Mo_keep y_Mo_keep ∈ gi_tb := ⟨(gi_m7 226 rfl rfl), gi_ms 90 rfl rfl⟩
abbrev b_Mo_onNull : ByteArray := prog_14_method_66_code
theorem my_Mo_onNull : gi_my y_Mo_onNull b_Mo_onNull 4 none 2 := ⟨(gi_m7 231 rfl rfl), (gi_m1 13 rfl rfl), by decide, by decide, by decide +kernel⟩
theorem im_Mo_onNull : Cond.instanceMethod y_Mo_onNull ∈ gi_tb ∧ Cond.selects y_Mo_onNull.cls y_Mo_onNull y_Mo_onNull ∈ gi_tb := ⟨(gi_m7 230 rfl rfl), gi_ms 91 rfl rfl⟩
abbrev b_Mo_markedSet : ByteArray := prog_14_method_59_code
theorem my_Mo_markedSet : gi_my y_Mo_markedSet b_Mo_markedSet 5 none 3 := ⟨(gi_m7 235 rfl rfl), (gi_m1 13 rfl rfl), by decide, by decide, by decide +kernel⟩
theorem im_Mo_markedSet : Cond.instanceMethod y_Mo_markedSet ∈ gi_tb ∧ Cond.selects y_Mo_markedSet.cls y_Mo_markedSet y_Mo_markedSet ∈ gi_tb := ⟨(gi_m7 234 rfl rfl), gi_ms 92 rfl rfl⟩
abbrev b_Mo_again : ByteArray := prog_14_method_44_code
theorem my_Mo_again : gi_my y_Mo_again b_Mo_again 2 none 0 := ⟨(gi_m7 239 rfl rfl), (gi_m1 13 rfl rfl), by decide, by decide, by decide +kernel⟩
theorem im_Mo_again : Cond.instanceMethod y_Mo_again ∈ gi_tb ∧ Cond.selects y_Mo_again.cls y_Mo_again y_Mo_again ∈ gi_tb := ⟨(gi_m7 238 rfl rfl), gi_ms 93 rfl rfl⟩
abbrev b_Mo_make : ByteArray := prog_14_method_67_code
theorem my_Mo_make : gi_my y_Mo_make b_Mo_make 11 none 2 := ⟨(gi_m8 3 rfl rfl), (gi_m1 13 rfl rfl), by decide, by decide, by decide +kernel⟩
theorem im_Mo_make : Cond.instanceMethod y_Mo_make ∈ gi_tb ∧ Cond.selects y_Mo_make.cls y_Mo_make y_Mo_make ∈ gi_tb := ⟨(gi_m8 2 rfl rfl), gi_ms 94 rfl rfl⟩
abbrev b_Mo_within : ByteArray := prog_14_method_27_code
theorem my_Mo_within : gi_my y_Mo_within b_Mo_within 15 (some .boolean) 5 := ⟨(gi_m8 7 rfl rfl), (gi_m1 13 rfl rfl), by decide, by decide, by decide +kernel⟩
theorem im_Mo_within : Cond.instanceMethod y_Mo_within ∈ gi_tb ∧ Cond.selects y_Mo_within.cls y_Mo_within y_Mo_within ∈ gi_tb := ⟨(gi_m8 6 rfl rfl), gi_ms 95 rfl rfl⟩
abbrev b_Mo_upTo : ByteArray := prog_14_method_25_code
theorem my_Mo_upTo : gi_my y_Mo_upTo b_Mo_upTo 6 (some .long) 3 := ⟨(gi_m8 10 rfl rfl), (gi_m1 13 rfl rfl), by decide, by decide, by decide +kernel⟩
theorem sm_Mo_upTo : Cond.static y_Mo_upTo ∈ gi_tb := (gi_m8 9 rfl rfl)
abbrev b_Mo_downTo : ByteArray := prog_14_method_26_code
theorem my_Mo_downTo : gi_my y_Mo_downTo b_Mo_downTo 6 (some .long) 3 := ⟨(gi_m8 13 rfl rfl), (gi_m1 13 rfl rfl), by decide, by decide, by decide +kernel⟩
theorem sm_Mo_downTo : Cond.static y_Mo_downTo ∈ gi_tb := (gi_m8 12 rfl rfl)
abbrev b_Mo_tell : ByteArray := prog_14_method_56_code
theorem my_Mo_tell : gi_my y_Mo_tell b_Mo_tell 8 none 4 := ⟨(gi_m8 17 rfl rfl), (gi_m1 13 rfl rfl), by decide, by decide, by decide +kernel⟩
theorem im_Mo_tell : Cond.instanceMethod y_Mo_tell ∈ gi_tb ∧ Cond.selects y_Mo_tell.cls y_Mo_tell y_Mo_tell ∈ gi_tb := ⟨(gi_m8 16 rfl rfl), gi_ms 96 rfl rfl⟩
abbrev b_Mo_markedSpan : ByteArray := prog_14_method_58_code
theorem my_Mo_markedSpan : gi_my y_Mo_markedSpan b_Mo_markedSpan 9 none 4 := ⟨(gi_m8 21 rfl rfl), (gi_m1 13 rfl rfl), by decide, by decide, by decide +kernel⟩
theorem im_Mo_markedSpan : Cond.instanceMethod y_Mo_markedSpan ∈ gi_tb ∧ Cond.selects y_Mo_markedSpan.cls y_Mo_markedSpan y_Mo_markedSpan ∈ gi_tb := ⟨(gi_m8 20 rfl rfl), gi_ms 97 rfl rfl⟩
abbrev b_Mo_array : ByteArray := prog_14_method_68_code
theorem my_Mo_array : gi_my y_Mo_array b_Mo_array 27 none 2 := ⟨(gi_m8 25 rfl rfl), (gi_m1 13 rfl rfl), by decide, by decide, by decide +kernel⟩
theorem im_Mo_array : Cond.instanceMethod y_Mo_array ∈ gi_tb ∧ Cond.selects y_Mo_array.cls y_Mo_array y_Mo_array ∈ gi_tb := ⟨(gi_m8 24 rfl rfl), gi_ms 98 rfl rfl⟩
abbrev b_Mo_ofSites : ByteArray := prog_14_method_60_code
theorem my_Mo_ofSites : gi_my y_Mo_ofSites b_Mo_ofSites 12 (some .boolean) 2 := ⟨(gi_m8 29 rfl rfl), (gi_m1 13 rfl rfl), by decide, by decide, by decide +kernel⟩
theorem im_Mo_ofSites : Cond.instanceMethod y_Mo_ofSites ∈ gi_tb ∧ Cond.selects y_Mo_ofSites.cls y_Mo_ofSites y_Mo_ofSites ∈ gi_tb := ⟨(gi_m8 28 rfl rfl), gi_ms 99 rfl rfl⟩
abbrev b_Mo_call : ByteArray := prog_14_method_69_code
theorem my_Mo_call : gi_my y_Mo_call b_Mo_call 5 none 2 := ⟨(gi_m8 33 rfl rfl), (gi_m1 13 rfl rfl), by decide, by decide, by decide +kernel⟩
theorem im_Mo_call : Cond.instanceMethod y_Mo_call ∈ gi_tb ∧ Cond.selects y_Mo_call.cls y_Mo_call y_Mo_call ∈ gi_tb := ⟨(gi_m8 32 rfl rfl), gi_ms 100 rfl rfl⟩
abbrev b_Mo_returns : ByteArray := prog_14_method_70_code
theorem my_Mo_returns : gi_my y_Mo_returns b_Mo_returns 2 none 0 := ⟨(gi_m8 37 rfl rfl), (gi_m1 13 rfl rfl), by decide, by decide, by decide +kernel⟩
theorem im_Mo_returns : Cond.instanceMethod y_Mo_returns ∈ gi_tb ∧ Cond.selects y_Mo_returns.cls y_Mo_returns y_Mo_returns ∈ gi_tb := ⟨(gi_m8 36 rfl rfl), gi_ms 101 rfl rfl⟩
abbrev b_Mo_tellSet : ByteArray := prog_14_method_57_code
theorem my_Mo_tellSet : gi_my y_Mo_tellSet b_Mo_tellSet 4 none 3 := ⟨(gi_m8 41 rfl rfl), (gi_m1 13 rfl rfl), by decide, by decide, by decide +kernel⟩
theorem im_Mo_tellSet : Cond.instanceMethod y_Mo_tellSet ∈ gi_tb ∧ Cond.selects y_Mo_tellSet.cls y_Mo_tellSet y_Mo_tellSet ∈ gi_tb := ⟨(gi_m8 40 rfl rfl), gi_ms 102 rfl rfl⟩
abbrev b_Mo_reckon : ByteArray := prog_14_method_64_code
theorem my_Mo_reckon : gi_my y_Mo_reckon b_Mo_reckon 18 none 2 := ⟨(gi_m8 45 rfl rfl), (gi_m1 13 rfl rfl), by decide, by decide, by decide +kernel⟩
theorem im_Mo_reckon : Cond.instanceMethod y_Mo_reckon ∈ gi_tb ∧ Cond.selects y_Mo_reckon.cls y_Mo_reckon y_Mo_reckon ∈ gi_tb := ⟨(gi_m8 44 rfl rfl), gi_ms 103 rfl rfl⟩
abbrev b_Mo_act : ByteArray := prog_14_method_35_code
theorem my_Mo_act : gi_my y_Mo_act b_Mo_act 20 none 7 := ⟨(gi_m8 49 rfl rfl), (gi_m1 13 rfl rfl), by decide, by decide, by decide +kernel⟩
theorem im_Mo_act : Cond.instanceMethod y_Mo_act ∈ gi_tb ∧ Cond.selects y_Mo_act.cls y_Mo_act y_Mo_act ∈ gi_tb := ⟨(gi_m8 48 rfl rfl), gi_ms 104 rfl rfl⟩
abbrev b_Mo_turned : ByteArray := prog_14_method_29_code
theorem my_Mo_turned : gi_my y_Mo_turned b_Mo_turned 13 none 3 := ⟨(gi_m8 53 rfl rfl), (gi_m1 13 rfl rfl), by decide, by decide, by decide +kernel⟩
theorem im_Mo_turned : Cond.instanceMethod y_Mo_turned ∈ gi_tb ∧ Cond.selects y_Mo_turned.cls y_Mo_turned y_Mo_turned ∈ gi_tb := ⟨(gi_m8 52 rfl rfl), gi_ms 105 rfl rfl⟩
abbrev b_Mo_floor : ByteArray := prog_14_method_28_code
theorem my_Mo_floor : gi_my y_Mo_floor b_Mo_floor 6 (some .long) 2 := ⟨(gi_m8 57 rfl rfl), (gi_m1 13 rfl rfl), by decide, by decide, by decide +kernel⟩
theorem sm_Mo_floor : Cond.static y_Mo_floor ∈ gi_tb := (gi_m8 56 rfl rfl)
abbrev b_Mo_times : ByteArray := prog_14_method_33_code
theorem my_Mo_times : gi_my y_Mo_times b_Mo_times 13 none 4 := ⟨(gi_m8 61 rfl rfl), (gi_m1 13 rfl rfl), by decide, by decide, by decide +kernel⟩
theorem im_Mo_times : Cond.instanceMethod y_Mo_times ∈ gi_tb ∧ Cond.selects y_Mo_times.cls y_Mo_times y_Mo_times ∈ gi_tb := ⟨(gi_m8 60 rfl rfl), gi_ms 106 rfl rfl⟩
abbrev b_Mo_low5 : ByteArray := prog_14_method_34_code
theorem my_Mo_low5 : gi_my y_Mo_low5 b_Mo_low5 2 (some .long) 1 := ⟨(gi_m8 64 rfl rfl), (gi_m1 13 rfl rfl), by decide, by decide, by decide +kernel⟩
theorem sm_Mo_low5 : Cond.static y_Mo_low5 ∈ gi_tb := (gi_m8 63 rfl rfl)
abbrev b_Mo_all : ByteArray := prog_14_method_32_code
theorem my_Mo_all : gi_my y_Mo_all b_Mo_all 3 none 1 := ⟨(gi_m8 69 rfl rfl), (gi_m1 13 rfl rfl), by decide, by decide, by decide +kernel⟩
theorem im_Mo_all : Cond.instanceMethod y_Mo_all ∈ gi_tb ∧ Cond.selects y_Mo_all.cls y_Mo_all y_Mo_all ∈ gi_tb := ⟨(gi_m8 68 rfl rfl), gi_ms 107 rfl rfl⟩
abbrev b_Mo_over : ByteArray := prog_14_method_37_code
theorem my_Mo_over : gi_my y_Mo_over b_Mo_over 21 none 5 := ⟨(gi_m8 73 rfl rfl), (gi_m1 13 rfl rfl), by decide, by decide, by decide +kernel⟩
theorem im_Mo_over : Cond.instanceMethod y_Mo_over ∈ gi_tb ∧ Cond.selects y_Mo_over.cls y_Mo_over y_Mo_over ∈ gi_tb := ⟨(gi_m8 72 rfl rfl), gi_ms 108 rfl rfl⟩
abbrev b_Mo_has : ByteArray := prog_14_method_30_code
theorem my_Mo_has : gi_my y_Mo_has b_Mo_has 8 (some .boolean) 4 := ⟨(gi_m8 77 rfl rfl), (gi_m1 13 rfl rfl), by decide, by decide, by decide +kernel⟩
theorem sm_Mo_has : Cond.static y_Mo_has ∈ gi_tb := (gi_m8 76 rfl rfl)
abbrev b_Mo_parts : ByteArray := prog_14_method_36_code
theorem my_Mo_parts : gi_my y_Mo_parts b_Mo_parts 7 none 3 := ⟨(gi_m8 81 rfl rfl), (gi_m1 13 rfl rfl), by decide, by decide, by decide +kernel⟩
theorem im_Mo_parts : Cond.instanceMethod y_Mo_parts ∈ gi_tb ∧ Cond.selects y_Mo_parts.cls y_Mo_parts y_Mo_parts ∈ gi_tb := ⟨(gi_m8 80 rfl rfl), gi_ms 109 rfl rfl⟩
abbrev b_Mo_rest : ByteArray := prog_14_method_38_code
theorem my_Mo_rest : gi_my y_Mo_rest b_Mo_rest 17 none 6 := ⟨(gi_m8 87 rfl rfl), (gi_m1 13 rfl rfl), by decide, by decide, by decide +kernel⟩
theorem im_Mo_rest : Cond.instanceMethod y_Mo_rest ∈ gi_tb ∧ Cond.selects y_Mo_rest.cls y_Mo_rest y_Mo_rest ∈ gi_tb := ⟨(gi_m8 86 rfl rfl), gi_ms 110 rfl rfl⟩
abbrev b_Mo_logic : ByteArray := prog_14_method_39_code
theorem my_Mo_logic : gi_my y_Mo_logic b_Mo_logic 12 none 5 := ⟨(gi_m8 91 rfl rfl), (gi_m1 13 rfl rfl), by decide, by decide, by decide +kernel⟩
theorem im_Mo_logic : Cond.instanceMethod y_Mo_logic ∈ gi_tb ∧ Cond.selects y_Mo_logic.cls y_Mo_logic y_Mo_logic ∈ gi_tb := ⟨(gi_m8 90 rfl rfl), gi_ms 111 rfl rfl⟩
abbrev b_Mo_unsigned : ByteArray := prog_14_method_40_code
theorem my_Mo_unsigned : gi_my y_Mo_unsigned b_Mo_unsigned 12 none 5 := ⟨(gi_m8 96 rfl rfl), (gi_m1 13 rfl rfl), by decide, by decide, by decide +kernel⟩
theorem im_Mo_unsigned : Cond.instanceMethod y_Mo_unsigned ∈ gi_tb ∧ Cond.selects y_Mo_unsigned.cls y_Mo_unsigned y_Mo_unsigned ∈ gi_tb := ⟨(gi_m8 95 rfl rfl), gi_ms 112 rfl rfl⟩
abbrev b_Mo_withoutEnd : ByteArray := prog_14_method_63_code
theorem my_Mo_withoutEnd : gi_my y_Mo_withoutEnd b_Mo_withoutEnd 9 (some .boolean) 4 := ⟨(gi_m8 102 rfl rfl), (gi_m1 13 rfl rfl), by decide, by decide, by decide +kernel⟩
theorem im_Mo_withoutEnd : Cond.instanceMethod y_Mo_withoutEnd ∈ gi_tb ∧ Cond.selects y_Mo_withoutEnd.cls y_Mo_withoutEnd y_Mo_withoutEnd ∈ gi_tb := ⟨(gi_m8 101 rfl rfl), gi_ms 113 rfl rfl⟩
abbrev b_Mo_compared : ByteArray := prog_14_method_65_code
theorem my_Mo_compared : gi_my y_Mo_compared b_Mo_compared 32 none 2 := ⟨(gi_m8 106 rfl rfl), (gi_m1 13 rfl rfl), by decide, by decide, by decide +kernel⟩
theorem im_Mo_compared : Cond.instanceMethod y_Mo_compared ∈ gi_tb ∧ Cond.selects y_Mo_compared.cls y_Mo_compared y_Mo_compared ∈ gi_tb := ⟨(gi_m8 105 rfl rfl), gi_ms 114 rfl rfl⟩
abbrev b_Mo_anew : ByteArray := prog_14_method_75_code
theorem my_Mo_anew : gi_my y_Mo_anew b_Mo_anew 5 none 0 := ⟨(gi_m8 110 rfl rfl), (gi_m1 13 rfl rfl), by decide, by decide, by decide +kernel⟩
theorem im_Mo_anew : Cond.instanceMethod y_Mo_anew ∈ gi_tb ∧ Cond.selects y_Mo_anew.cls y_Mo_anew y_Mo_anew ∈ gi_tb := ⟨(gi_m8 109 rfl rfl), gi_ms 115 rfl rfl⟩
abbrev b_Mo_check : ByteArray := prog_14_method_76_code
theorem my_Mo_check : gi_my y_Mo_check b_Mo_check 2 (some .int) 0 := ⟨(gi_m8 114 rfl rfl), (gi_m1 13 rfl rfl), by decide, by decide, by decide +kernel⟩
theorem im_Mo_check : Cond.instanceMethod y_Mo_check ∈ gi_tb ∧ Cond.selects y_Mo_check.cls y_Mo_check y_Mo_check ∈ gi_tb := ⟨(gi_m8 112 rfl rfl), (gi_m8 113 rfl rfl)⟩
abbrev b_Mo_reached : ByteArray := prog_14_method_78_code
theorem my_Mo_reached : gi_my y_Mo_reached b_Mo_reached 3 (some .boolean) 2 := ⟨(gi_m8 118 rfl rfl), (gi_m1 13 rfl rfl), by decide, by decide, by decide +kernel⟩
theorem im_Mo_reached : Cond.instanceMethod y_Mo_reached ∈ gi_tb ∧ Cond.selects y_Mo_reached.cls y_Mo_reached y_Mo_reached ∈ gi_tb := ⟨(gi_m8 116 rfl rfl), (gi_m8 117 rfl rfl)⟩
abbrev b_Mo_isPlace : ByteArray := prog_14_method_77_code
theorem my_Mo_isPlace : gi_my y_Mo_isPlace b_Mo_isPlace 3 (some .boolean) 2 := ⟨(gi_m8 122 rfl rfl), (gi_m1 13 rfl rfl), by decide, by decide, by decide +kernel⟩
theorem im_Mo_isPlace : Cond.instanceMethod y_Mo_isPlace ∈ gi_tb ∧ Cond.selects y_Mo_isPlace.cls y_Mo_isPlace y_Mo_isPlace ∈ gi_tb := ⟨(gi_m8 121 rfl rfl), gi_ms 116 rfl rfl⟩
abbrev b_Mo_state : ByteArray := prog_14_method_80_code
theorem my_Mo_state : gi_my y_Mo_state b_Mo_state 8 (some .long) 4 := ⟨(gi_m8 126 rfl rfl), (gi_m1 13 rfl rfl), by decide, by decide, by decide +kernel⟩
theorem im_Mo_state : Cond.instanceMethod y_Mo_state ∈ gi_tb ∧ Cond.selects y_Mo_state.cls y_Mo_state y_Mo_state ∈ gi_tb := ⟨(gi_m8 124 rfl rfl), (gi_m8 125 rfl rfl)⟩
abbrev b_Mo_slotOf : ByteArray := prog_14_method_79_code
theorem my_Mo_slotOf : gi_my y_Mo_slotOf b_Mo_slotOf 5 (some .int) 3 := ⟨(gi_m8 130 rfl rfl), (gi_m1 13 rfl rfl), by decide, by decide, by decide +kernel⟩
theorem im_Mo_slotOf : Cond.instanceMethod y_Mo_slotOf ∈ gi_tb ∧ Cond.selects y_Mo_slotOf.cls y_Mo_slotOf y_Mo_slotOf ∈ gi_tb := ⟨(gi_m8 129 rfl rfl), gi_ms 117 rfl rfl⟩
abbrev b_Mo_site : ByteArray := prog_14_method_82_code
theorem my_Mo_site : gi_my y_Mo_site b_Mo_site 4 (some .long) 2 := ⟨(gi_m8 136 rfl rfl), (gi_m1 13 rfl rfl), by decide, by decide, by decide +kernel⟩
theorem im_Mo_site : Cond.instanceMethod y_Mo_site ∈ gi_tb ∧ Cond.selects y_Mo_site.cls y_Mo_site y_Mo_site ∈ gi_tb := ⟨(gi_m8 134 rfl rfl), (gi_m8 135 rfl rfl)⟩
abbrev b_Mo_toldOf : ByteArray := prog_14_method_81_code
theorem my_Mo_toldOf : gi_my y_Mo_toldOf b_Mo_toldOf 3 (some .long) 2 := ⟨(gi_m8 140 rfl rfl), (gi_m1 13 rfl rfl), by decide, by decide, by decide +kernel⟩
theorem im_Mo_toldOf : Cond.instanceMethod y_Mo_toldOf ∈ gi_tb ∧ Cond.selects y_Mo_toldOf.cls y_Mo_toldOf y_Mo_toldOf ∈ gi_tb := ⟨(gi_m8 139 rfl rfl), gi_ms 118 rfl rfl⟩
abbrev b_Mo_field : ByteArray := prog_14_method_83_code
theorem my_Mo_field : gi_my y_Mo_field b_Mo_field 3 (some .long) 2 := ⟨(gi_m8 144 rfl rfl), (gi_m1 13 rfl rfl), by decide, by decide, by decide +kernel⟩
theorem im_Mo_field : Cond.instanceMethod y_Mo_field ∈ gi_tb ∧ Cond.selects y_Mo_field.cls y_Mo_field y_Mo_field ∈ gi_tb := ⟨(gi_m8 142 rfl rfl), (gi_m8 143 rfl rfl)⟩
abbrev b_Mo_result : ByteArray := prog_14_method_84_code
theorem my_Mo_result : gi_my y_Mo_result b_Mo_result 4 (some .long) 2 := ⟨(gi_m8 148 rfl rfl), (gi_m1 13 rfl rfl), by decide, by decide, by decide +kernel⟩
theorem im_Mo_result : Cond.instanceMethod y_Mo_result ∈ gi_tb ∧ Cond.selects y_Mo_result.cls y_Mo_result y_Mo_result ∈ gi_tb := ⟨(gi_m8 146 rfl rfl), (gi_m8 147 rfl rfl)⟩
abbrev b_Mo_verdict : ByteArray := prog_14_method_86_code
theorem my_Mo_verdict : gi_my y_Mo_verdict b_Mo_verdict 4 (some .int) 3 := ⟨(gi_m8 152 rfl rfl), (gi_m1 13 rfl rfl), by decide, by decide, by decide +kernel⟩
theorem im_Mo_verdict : Cond.instanceMethod y_Mo_verdict ∈ gi_tb ∧ Cond.selects y_Mo_verdict.cls y_Mo_verdict y_Mo_verdict ∈ gi_tb := ⟨(gi_m8 150 rfl rfl), (gi_m8 151 rfl rfl)⟩
abbrev b_Mo_verdictOf : ByteArray := prog_14_method_87_code
theorem my_Mo_verdictOf : gi_my y_Mo_verdictOf b_Mo_verdictOf 12 (some .int) 2 := ⟨(gi_m8 156 rfl rfl), (gi_m1 13 rfl rfl), by decide, by decide, by decide +kernel⟩
theorem im_Mo_verdictOf : Cond.instanceMethod y_Mo_verdictOf ∈ gi_tb ∧ Cond.selects y_Mo_verdictOf.cls y_Mo_verdictOf y_Mo_verdictOf ∈ gi_tb := ⟨(gi_m8 155 rfl rfl), gi_ms 119 rfl rfl⟩
abbrev b_Mo_asks : ByteArray := prog_14_method_85_code
theorem my_Mo_asks : gi_my y_Mo_asks b_Mo_asks 3 (some .boolean) 2 := ⟨(gi_m8 160 rfl rfl), (gi_m1 13 rfl rfl), by decide, by decide, by decide +kernel⟩
theorem im_Mo_asks : Cond.instanceMethod y_Mo_asks ∈ gi_tb ∧ Cond.selects y_Mo_asks.cls y_Mo_asks y_Mo_asks ∈ gi_tb := ⟨(gi_m8 159 rfl rfl), gi_ms 120 rfl rfl⟩
abbrev b_Mo_verdicts : ByteArray := prog_14_method_88_code
theorem my_Mo_verdicts : gi_my y_Mo_verdicts b_Mo_verdicts 6 (some .int) 1 := ⟨(gi_m8 164 rfl rfl), (gi_m1 13 rfl rfl), by decide, by decide, by decide +kernel⟩
theorem im_Mo_verdicts : Cond.instanceMethod y_Mo_verdicts ∈ gi_tb ∧ Cond.selects y_Mo_verdicts.cls y_Mo_verdicts y_Mo_verdicts ∈ gi_tb := ⟨(gi_m8 162 rfl rfl), (gi_m8 163 rfl rfl)⟩
abbrev b_Mo_plant : ByteArray := prog_14_method_89_code
theorem my_Mo_plant : gi_my y_Mo_plant b_Mo_plant 8 (some .boolean) 5 := ⟨(gi_m8 168 rfl rfl), (gi_m1 13 rfl rfl), by decide, by decide, by decide +kernel⟩
theorem im_Mo_plant : Cond.instanceMethod y_Mo_plant ∈ gi_tb ∧ Cond.selects y_Mo_plant.cls y_Mo_plant y_Mo_plant ∈ gi_tb := ⟨(gi_m8 166 rfl rfl), (gi_m8 167 rfl rfl)⟩
abbrev b_Mo_forgetState : ByteArray := prog_14_method_90_code
theorem my_Mo_forgetState : gi_my y_Mo_forgetState b_Mo_forgetState 3 (some .boolean) 2 := ⟨(gi_m8 172 rfl rfl), (gi_m1 13 rfl rfl), by decide, by decide, by decide +kernel⟩
theorem im_Mo_forgetState : Cond.instanceMethod y_Mo_forgetState ∈ gi_tb ∧ Cond.selects y_Mo_forgetState.cls y_Mo_forgetState y_Mo_forgetState ∈ gi_tb := ⟨(gi_m8 170 rfl rfl), (gi_m8 171 rfl rfl)⟩
abbrev b_Mo_argument : ByteArray := prog_14_method_91_code
theorem my_Mo_argument : gi_my y_Mo_argument b_Mo_argument 4 (some .int) 2 := ⟨(gi_m8 176 rfl rfl), (gi_m1 13 rfl rfl), by decide, by decide, by decide +kernel⟩
theorem im_Mo_argument : Cond.instanceMethod y_Mo_argument ∈ gi_tb ∧ Cond.selects y_Mo_argument.cls y_Mo_argument y_Mo_argument ∈ gi_tb := ⟨(gi_m8 174 rfl rfl), (gi_m8 175 rfl rfl)⟩
abbrev b_Mo_fill : ByteArray := prog_14_method_92_code
theorem my_Mo_fill : gi_my y_Mo_fill b_Mo_fill 4 (some .int) 3 := ⟨(gi_m8 180 rfl rfl), (gi_m1 13 rfl rfl), by decide, by decide, by decide +kernel⟩
theorem im_Mo_fill : Cond.instanceMethod y_Mo_fill ∈ gi_tb ∧ Cond.selects y_Mo_fill.cls y_Mo_fill y_Mo_fill ∈ gi_tb := ⟨(gi_m8 178 rfl rfl), (gi_m8 179 rfl rfl)⟩
abbrev b_Mo_forget : ByteArray := prog_14_method_93_code
theorem my_Mo_forget : gi_my y_Mo_forget b_Mo_forget 2 (some .int) 0 := ⟨(gi_m8 184 rfl rfl), (gi_m1 13 rfl rfl), by decide, by decide, by decide +kernel⟩
theorem im_Mo_forget : Cond.instanceMethod y_Mo_forget ∈ gi_tb ∧ Cond.selects y_Mo_forget.cls y_Mo_forget y_Mo_forget ∈ gi_tb := ⟨(gi_m8 182 rfl rfl), (gi_m8 183 rfl rfl)⟩
abbrev b_Mo_run : ByteArray := prog_14_method_99_code
theorem my_Mo_run : gi_my y_Mo_run b_Mo_run 5 (some .int) 2 := ⟨(gi_m8 188 rfl rfl), (gi_m1 13 rfl rfl), by decide, by decide, by decide +kernel⟩
theorem im_Mo_run : Cond.instanceMethod y_Mo_run ∈ gi_tb ∧ Cond.selects y_Mo_run.cls y_Mo_run y_Mo_run ∈ gi_tb := ⟨(gi_m8 186 rfl rfl), (gi_m8 187 rfl rfl)⟩
abbrev b_Mo_fits : ByteArray := prog_14_method_94_code
theorem my_Mo_fits : gi_my y_Mo_fits b_Mo_fits 4 (some .boolean) 1 := ⟨(gi_m8 192 rfl rfl), (gi_m1 13 rfl rfl), by decide, by decide, by decide +kernel⟩
theorem im_Mo_fits : Cond.instanceMethod y_Mo_fits ∈ gi_tb ∧ Cond.selects y_Mo_fits.cls y_Mo_fits y_Mo_fits ∈ gi_tb := ⟨(gi_m8 191 rfl rfl), gi_ms 121 rfl rfl⟩
abbrev b_Mo_isToldBy : ByteArray := prog_14_method_96_code
theorem my_Mo_isToldBy : gi_my y_Mo_isToldBy b_Mo_isToldBy 3 (some .boolean) 2 := ⟨(gi_m8 196 rfl rfl), (gi_m1 13 rfl rfl), by decide, by decide, by decide +kernel⟩
theorem im_Mo_isToldBy : Cond.instanceMethod y_Mo_isToldBy ∈ gi_tb ∧ Cond.selects y_Mo_isToldBy.cls y_Mo_isToldBy y_Mo_isToldBy ∈ gi_tb := ⟨(gi_m8 195 rfl rfl), gi_ms 122 rfl rfl⟩
abbrev b_Mo_enter : ByteArray := prog_14_method_98_code
theorem my_Mo_enter : gi_my y_Mo_enter b_Mo_enter 3 none 1 := ⟨(gi_m8 200 rfl rfl), (gi_m1 13 rfl rfl), by decide, by decide, by decide +kernel⟩
theorem im_Mo_enter : Cond.instanceMethod y_Mo_enter ∈ gi_tb ∧ Cond.selects y_Mo_enter.cls y_Mo_enter y_Mo_enter ∈ gi_tb := ⟨(gi_m8 199 rfl rfl), gi_ms 123 rfl rfl⟩
abbrev b_Mo_f : ByteArray := prog_14_method_97_code
theorem my_Mo_f : gi_my y_Mo_f b_Mo_f 2 (some .int) 1 := ⟨(gi_m8 204 rfl rfl), (gi_m1 13 rfl rfl), by decide, by decide, by decide +kernel⟩
theorem im_Mo_f : Cond.instanceMethod y_Mo_f ∈ gi_tb ∧ Cond.selects y_Mo_f.cls y_Mo_f y_Mo_f ∈ gi_tb := ⟨(gi_m8 203 rfl rfl), gi_ms 124 rfl rfl⟩
abbrev b_Mo_makeArray : ByteArray := prog_14_method_95_code
theorem my_Mo_makeArray : gi_my y_Mo_makeArray b_Mo_makeArray 5 (some .int) 2 := ⟨(gi_m8 208 rfl rfl), (gi_m1 13 rfl rfl), by decide, by decide, by decide +kernel⟩
theorem im_Mo_makeArray : Cond.instanceMethod y_Mo_makeArray ∈ gi_tb ∧ Cond.selects y_Mo_makeArray.cls y_Mo_makeArray y_Mo_makeArray ∈ gi_tb := ⟨(gi_m8 207 rfl rfl), gi_ms 125 rfl rfl⟩
abbrev b_Mo_look : ByteArray := prog_14_method_100_code
theorem my_Mo_look : gi_my y_Mo_look b_Mo_look 5 none 0 := ⟨(gi_m8 212 rfl rfl), (gi_m1 13 rfl rfl), by decide, by decide, by decide +kernel⟩
theorem im_Mo_look : Cond.instanceMethod y_Mo_look ∈ gi_tb ∧ Cond.selects y_Mo_look.cls y_Mo_look y_Mo_look ∈ gi_tb := ⟨(gi_m8 211 rfl rfl), gi_ms 126 rfl rfl⟩
abbrev b_Mo_one : ByteArray := prog_14_method_105_code
theorem my_Mo_one : gi_my y_Mo_one b_Mo_one 7 none 0 := ⟨(gi_m8 216 rfl rfl), (gi_m1 13 rfl rfl), by decide, by decide, by decide +kernel⟩
theorem im_Mo_one : Cond.instanceMethod y_Mo_one ∈ gi_tb ∧ Cond.selects y_Mo_one.cls y_Mo_one y_Mo_one ∈ gi_tb := ⟨(gi_m8 215 rfl rfl), gi_ms 127 rfl rfl⟩
abbrev b_Mo_pop : ByteArray := prog_14_method_101_code
theorem my_Mo_pop : gi_my y_Mo_pop b_Mo_pop 1 (some .int) 0 := ⟨(gi_m8 220 rfl rfl), (gi_m1 13 rfl rfl), by decide, by decide, by decide +kernel⟩
theorem im_Mo_pop : Cond.instanceMethod y_Mo_pop ∈ gi_tb ∧ Cond.selects y_Mo_pop.cls y_Mo_pop y_Mo_pop ∈ gi_tb := ⟨(gi_m8 219 rfl rfl), gi_ms 128 rfl rfl⟩
abbrev b_Mo_reckoned : ByteArray := prog_14_method_103_code
theorem my_Mo_reckoned : gi_my y_Mo_reckoned b_Mo_reckoned 3 (some .int) 3 := ⟨(gi_m8 223 rfl rfl), (gi_m1 13 rfl rfl), by decide, by decide, by decide +kernel⟩
theorem sm_Mo_reckoned : Cond.static y_Mo_reckoned ∈ gi_tb := (gi_m8 222 rfl rfl)
abbrev b_Mo_push : ByteArray := prog_14_method_102_code
theorem my_Mo_push : gi_my y_Mo_push b_Mo_push 2 none 1 := ⟨(gi_m8 227 rfl rfl), (gi_m1 13 rfl rfl), by decide, by decide, by decide +kernel⟩
theorem im_Mo_push : Cond.instanceMethod y_Mo_push ∈ gi_tb ∧ Cond.selects y_Mo_push.cls y_Mo_push y_Mo_push ∈ gi_tb := ⟨(gi_m8 226 rfl rfl), gi_ms 129 rfl rfl⟩
abbrev b_Mo_isSo : ByteArray := prog_14_method_104_code
theorem my_Mo_isSo : gi_my y_Mo_isSo b_Mo_isSo 3 (some .boolean) 3 := ⟨(gi_m8 230 rfl rfl), (gi_m1 13 rfl rfl), by decide, by decide, by decide +kernel⟩
theorem sm_Mo_isSo : Cond.static y_Mo_isSo ∈ gi_tb := (gi_m8 229 rfl rfl)
abbrev b_Mo_other : ByteArray := prog_14_method_106_code
theorem my_Mo_other : gi_my y_Mo_other b_Mo_other 8 none 4 := ⟨(gi_m8 234 rfl rfl), (gi_m1 13 rfl rfl), by decide, by decide, by decide +kernel⟩
theorem im_Mo_other : Cond.instanceMethod y_Mo_other ∈ gi_tb ∧ Cond.selects y_Mo_other.cls y_Mo_other y_Mo_other ∈ gi_tb := ⟨(gi_m8 233 rfl rfl), gi_ms 130 rfl rfl⟩
abbrev b_Mo_made : ByteArray := prog_14_method_107_code
theorem my_Mo_made : gi_my y_Mo_made b_Mo_made 4 none 2 := ⟨(gi_m8 238 rfl rfl), (gi_m1 13 rfl rfl), by decide, by decide, by decide +kernel⟩
theorem im_Mo_made : Cond.instanceMethod y_Mo_made ∈ gi_tb ∧ Cond.selects y_Mo_made.cls y_Mo_made y_Mo_made ∈ gi_tb := ⟨(gi_m8 237 rfl rfl), gi_ms 131 rfl rfl⟩
abbrev b_Mo_touched : ByteArray := prog_14_method_108_code
theorem my_Mo_touched : gi_my y_Mo_touched b_Mo_touched 5 none 1 := ⟨(gi_m9 3 rfl rfl), (gi_m1 13 rfl rfl), by decide, by decide, by decide +kernel⟩
theorem im_Mo_touched : Cond.instanceMethod y_Mo_touched ∈ gi_tb ∧ Cond.selects y_Mo_touched.cls y_Mo_touched y_Mo_touched ∈ gi_tb := ⟨(gi_m9 2 rfl rfl), gi_ms 132 rfl rfl⟩
abbrev b_Mo_called : ByteArray := prog_14_method_109_code
theorem my_Mo_called : gi_my y_Mo_called b_Mo_called 4 none 1 := ⟨(gi_m9 7 rfl rfl), (gi_m1 13 rfl rfl), by decide, by decide, by decide +kernel⟩
theorem im_Mo_called : Cond.instanceMethod y_Mo_called ∈ gi_tb ∧ Cond.selects y_Mo_called.cls y_Mo_called y_Mo_called ∈ gi_tb := ⟨(gi_m9 6 rfl rfl), gi_ms 133 rfl rfl⟩
abbrev b_Mo_left : ByteArray := prog_14_method_110_code
theorem my_Mo_left : gi_my y_Mo_left b_Mo_left 3 none 1 := ⟨(gi_m9 11 rfl rfl), (gi_m1 13 rfl rfl), by decide, by decide, by decide +kernel⟩
theorem im_Mo_left : Cond.instanceMethod y_Mo_left ∈ gi_tb ∧ Cond.selects y_Mo_left.cls y_Mo_left y_Mo_left ∈ gi_tb := ⟨(gi_m9 10 rfl rfl), gi_ms 134 rfl rfl⟩
abbrev b_Mo_ran : ByteArray := prog_14_method_111_code
theorem my_Mo_ran : gi_my y_Mo_ran b_Mo_ran 2 (some .long) 1 := ⟨(gi_m9 15 rfl rfl), (gi_m1 13 rfl rfl), by decide, by decide, by decide +kernel⟩
theorem im_Mo_ran : Cond.instanceMethod y_Mo_ran ∈ gi_tb ∧ Cond.selects y_Mo_ran.cls y_Mo_ran y_Mo_ran ∈ gi_tb := ⟨(gi_m9 13 rfl rfl), (gi_m9 14 rfl rfl)⟩
abbrev b_Mo_outside : ByteArray := prog_14_method_112_code
theorem my_Mo_outside : gi_my y_Mo_outside b_Mo_outside 1 (some .int) 0 := ⟨(gi_m9 19 rfl rfl), (gi_m1 13 rfl rfl), by decide, by decide, by decide +kernel⟩
theorem im_Mo_outside : Cond.instanceMethod y_Mo_outside ∈ gi_tb ∧ Cond.selects y_Mo_outside.cls y_Mo_outside y_Mo_outside ∈ gi_tb := ⟨(gi_m9 17 rfl rfl), (gi_m9 18 rfl rfl)⟩
theorem ob_w : Cond.instanceMethod Lib.objectInit ∈ gi_tb ∧ Cond.code Lib.objectInit ⟨#[0xb1]⟩ 1 none ∈ gi_tb := ⟨(gi_m1 22 rfl rfl), (gi_m1 23 rfl rfl)⟩
theorem lk_La_9 : gi_lk R_La 9 y_H_init := Or.inl (gi_m1 18 rfl rfl)
theorem lo_H_3 : Cond.methodLink R_H 3 Lib.objectInit ∈ gi_tb := (gi_m1 21 rfl rfl)
theorem lo_Pr_3 : Cond.methodLink R_Pr 3 Lib.objectInit ∈ gi_tb := (gi_m1 29 rfl rfl)
theorem lk_H_18 : gi_lk R_H 18 y_Bu_init := Or.inl (gi_m1 60 rfl rfl)
theorem lo_Bu_3 : Cond.methodLink R_Bu 3 Lib.objectInit ∈ gi_tb := (gi_m1 63 rfl rfl)
theorem lk_H_27 : gi_lk R_H 27 y_Fa_init := Or.inl (gi_m1 118 rfl rfl)
theorem lo_Fa_3 : Cond.methodLink R_Fa 3 Lib.objectInit ∈ gi_tb := (gi_m1 121 rfl rfl)
theorem lk_Fa_29 : gi_lk R_Fa 29 y_Ro_init := Or.inl (gi_m1 125 rfl rfl)
theorem lo_Ro_3 : Cond.methodLink R_Ro 3 Lib.objectInit ∈ gi_tb := (gi_m1 128 rfl rfl)
theorem lo_Va_3 : Cond.methodLink R_Va 3 Lib.objectInit ∈ gi_tb := (gi_m1 135 rfl rfl)
theorem lk_H_37 : gi_lk R_H 37 y_St_init := Or.inl (gi_m1 215 rfl rfl)
theorem lo_St_3 : Cond.methodLink R_St 3 Lib.objectInit ∈ gi_tb := (gi_m1 218 rfl rfl)
theorem lo_Re_3 : Cond.methodLink R_Re 3 Lib.objectInit ∈ gi_tb := (gi_m1 224 rfl rfl)
theorem lk_St_20 : gi_lk R_St 20 y_Ro_init := Or.inl (gi_m1 235 rfl rfl)
theorem lk_H_46 : gi_lk R_H 46 y_Ju_init := Or.inl (gi_m2 59 rfl rfl)
theorem lo_Ju_3 : Cond.methodLink R_Ju 3 Lib.objectInit ∈ gi_tb := (gi_m2 62 rfl rfl)
theorem lo_Gi_3 : Cond.methodLink R_Gi 3 Lib.objectInit ∈ gi_tb := (gi_m2 75 rfl rfl)
theorem lk_H_62 : gi_lk R_H 62 y_Ma_init := Or.inl (gi_m2 92 rfl rfl)
theorem lo_Ma_3 : Cond.methodLink R_Ma 3 Lib.objectInit ∈ gi_tb := (gi_m2 95 rfl rfl)
theorem lo_He_3 : Cond.methodLink R_He 3 Lib.objectInit ∈ gi_tb := (gi_m2 101 rfl rfl)
theorem lk_La_13 : gi_lk R_La 13 y_H_method := Or.inl (gi_m2 204 rfl rfl)
theorem lk_H_77 : gi_lk R_H 77 y_Pr_addMethod := Or.inl (gi_m2 208 rfl rfl)
theorem lk_H_81 : gi_lk R_H 81 y_H_takeAway := Or.inl (gi_m2 212 rfl rfl)
theorem lk_La_18 : gi_lk R_La 18 y_H_code := Or.inl (gi_m2 216 rfl rfl)
theorem lk_H_84 : gi_lk R_H 84 y_Pr_addInstruction := Or.inl (gi_m2 220 rfl rfl)
theorem lk_Pr_37 : gi_lk R_Pr 37 y_Pr_hasMethod := Or.inl (gi_m2 224 rfl rfl)
theorem lk_La_23 : gi_lk R_La 23 y_H_wipe := Or.inl (gi_m2 228 rfl rfl)
theorem lk_H_88 : gi_lk R_H 88 y_Pr_clear := Or.inl (gi_m2 232 rfl rfl)
theorem lk_La_28 : gi_lk R_La 28 y_H_build := Or.inl (gi_m2 236 rfl rfl)
theorem lk_H_92 : gi_lk R_H 92 y_Bu_make := Or.inl (gi_m3 0 rfl rfl)
theorem lk_Bu_51 : gi_lk R_Bu 51 y_Bu_findOperandFault := Or.inl (gi_m3 4 rfl rfl)
theorem lk_Bu_77 : gi_lk R_Bu 77 y_Pr_lengthOf := Or.inl (gi_m3 8 rfl rfl)
theorem lk_Bu_81 : gi_lk R_Bu 81 y_Pr_opAt := Or.inl (gi_m3 12 rfl rfl)
theorem lk_Pr_41 : gi_lk R_Pr 41 y_Pr_hasPlace := Or.inl (gi_m3 16 rfl rfl)
theorem lk_Bu_85 : gi_lk R_Bu 85 y_Pr_operandAt := Or.inl (gi_m3 20 rfl rfl)
theorem lk_Bu_88 : gi_lk R_Bu 88 y_Pr_hasOperand := Or.inl (gi_m3 24 rfl rfl)
theorem lk_Pr_45 : gi_lk R_Pr 45 y_Pr_localsOf := Or.inl (gi_m3 28 rfl rfl)
theorem lk_Bu_92 : gi_lk R_Bu 92 y_Bu_faultIs := Or.inl (gi_m3 32 rfl rfl)
theorem lk_Bu_59 : gi_lk R_Bu 59 y_Bu_shapeMethod := Or.inl (gi_m3 36 rfl rfl)
theorem lk_Bu_96 : gi_lk R_Bu 96 y_Bu_lookAt := Or.inl (gi_m3 40 rfl rfl)
theorem lk_Bu_109 : gi_lk R_Bu 109 y_Bu_takeShape := Or.inl (gi_m3 44 rfl rfl)
theorem lk_Bu_118 : gi_lk R_Bu 118 y_Pr_holdsArray := Or.inl (gi_m3 48 rfl rfl)
theorem lk_Bu_121 : gi_lk R_Bu 121 y_Bu_takeKind := Or.inl (gi_m3 52 rfl rfl)
theorem lk_Bu_125 : gi_lk R_Bu 125 y_Pr_resultSort := Or.inl (gi_m3 56 rfl rfl)
theorem lk_Bu_128 : gi_lk R_Bu 128 y_Pr_argumentsOf := Or.inl (gi_m3 60 rfl rfl)
theorem lk_Bu_112 : gi_lk R_Bu 112 y_Bu_putShape := Or.inl (gi_m3 66 rfl rfl)
theorem lk_Bu_134 : gi_lk R_Bu 134 y_Bu_putKind := Or.inl (gi_m3 70 rfl rfl)
theorem lk_Bu_138 : gi_lk R_Bu 138 y_Bu_swapKinds := Or.inl (gi_m3 74 rfl rfl)
theorem lk_Bu_115 : gi_lk R_Bu 115 y_Bu_shapeComes := Or.inl (gi_m3 78 rfl rfl)
theorem lk_Bu_73 : gi_lk R_Bu 73 y_Pr_hasPlace := Or.inl (gi_m3 82 rfl rfl)
theorem lk_Bu_100 : gi_lk R_Bu 100 y_Bu_leastUnlooked := Or.inl (gi_m3 83 rfl rfl)
theorem lk_Bu_63 : gi_lk R_Bu 63 y_Bu_findSites := Or.inl (gi_m3 87 rfl rfl)
theorem lk_Bu_66 : gi_lk R_Bu 66 y_Bu_findWidePlaces := Or.inl (gi_m3 91 rfl rfl)
theorem lk_La_33 : gi_lk R_La 33 y_H_faultAt := Or.inl (gi_m3 95 rfl rfl)
theorem lk_La_37 : gi_lk R_La 37 y_H_analyze := Or.inl (gi_m3 99 rfl rfl)
theorem lk_H_111 : gi_lk R_H 111 y_Fa_begin := Or.inl (gi_m3 103 rfl rfl)
theorem lk_Fa_32 : gi_lk R_Fa 32 y_Ro_empty := Or.inl (gi_m3 107 rfl rfl)
theorem lk_Fa_39 : gi_lk R_Fa 39 y_Ro_push := Or.inl (gi_m3 111 rfl rfl)
theorem lk_Ro_47 : gi_lk R_Ro 47 y_Ro_markTop := Or.inl (gi_m3 115 rfl rfl)
theorem lk_Ro_22 : gi_lk R_Ro 22 y_Ro_hasIndex := Or.inl (gi_m3 119 rfl rfl)
theorem lk_Ro_51 : gi_lk R_Ro 51 y_Ro_valueAt := Or.inl (gi_m3 123 rfl rfl)
theorem lk_Fa_43 : gi_lk R_Fa 43 y_Va_beSingle := Or.inl (gi_m3 127 rfl rfl)
theorem lk_Va_32 : gi_lk R_Va 32 y_Va_beSpan := Or.inl (gi_m3 131 rfl rfl)
theorem lk_Fa_51 : gi_lk R_Fa 51 y_Va_beSpan := Or.inl (gi_m3 136 rfl rfl)
theorem lk_Fa_55 : gi_lk R_Fa 55 y_Va_beAll := Or.inl (gi_m3 137 rfl rfl)
theorem lk_H_114 : gi_lk R_H 114 y_St_prepare := Or.inl (gi_m3 143 rfl rfl)
theorem lk_H_122 : gi_lk R_H 122 y_H_pass := Or.inl (gi_m3 148 rfl rfl)
theorem lk_H_207 : gi_lk R_H 207 y_H_isRoot := Or.inl (gi_m3 152 rfl rfl)
theorem lk_H_210 : gi_lk R_H 210 y_St_enterRoot := Or.inl (gi_m3 155 rfl rfl)
theorem lk_St_121 : gi_lk R_St 121 y_St_openEntry := Or.inl (gi_m3 159 rfl rfl)
theorem lk_St_103 : gi_lk R_St 103 y_Pr_localsOf := Or.inl (gi_m3 163 rfl rfl)
theorem lk_St_95 : gi_lk R_St 95 y_Ro_push := Or.inl (gi_m3 164 rfl rfl)
theorem lk_St_109 : gi_lk R_St 109 y_Pr_holdsArray := Or.inl (gi_m3 165 rfl rfl)
theorem lk_St_113 : gi_lk R_St 113 y_Va_beSet := Or.inl (gi_m3 166 rfl rfl)
theorem lk_St_117 : gi_lk R_St 117 y_Va_beSingle := Or.inl (gi_m3 170 rfl rfl)
theorem lk_St_124 : gi_lk R_St 124 y_Pr_argumentsOf := Or.inl (gi_m3 171 rfl rfl)
theorem lk_St_127 : gi_lk R_St 127 y_Ro_valueAt := Or.inl (gi_m3 172 rfl rfl)
theorem lk_St_131 : gi_lk R_St 131 y_Va_beAll := Or.inl (gi_m3 173 rfl rfl)
theorem lk_St_134 : gi_lk R_St 134 y_Fa_stateAt := Or.inl (gi_m3 174 rfl rfl)
theorem lk_St_140 : gi_lk R_St 140 y_St_come := Or.inl (gi_m3 178 rfl rfl)
theorem lk_St_84 : gi_lk R_St 84 y_Ro_covers := Or.inl (gi_m3 182 rfl rfl)
theorem lk_Ro_55 : gi_lk R_Ro 55 y_Va_covers := Or.inl (gi_m3 186 rfl rfl)
theorem lk_St_88 : gi_lk R_St 88 y_Ro_join := Or.inl (gi_m3 190 rfl rfl)
theorem lk_Ro_59 : gi_lk R_Ro 59 y_Ro_copy := Or.inl (gi_m3 194 rfl rfl)
theorem lk_Ro_37 : gi_lk R_Ro 37 y_Mt_min_0 := Or.inl (gi_m3 198 rfl rfl)
theorem lk_Ro_43 : gi_lk R_Ro 43 y_Va_copy := Or.inl (gi_m3 201 rfl rfl)
theorem lk_Ro_62 : gi_lk R_Ro 62 y_Ro_covers := Or.inl (gi_m3 205 rfl rfl)
theorem lk_Ro_72 : gi_lk R_Ro 72 y_Va_both := Or.inl (gi_m3 206 rfl rfl)
theorem lk_Va_40 : gi_lk R_Va 40 y_Va_isNothing := Or.inl (gi_m3 210 rfl rfl)
theorem lk_Va_44 : gi_lk R_Va 44 y_Va_copy := Or.inl (gi_m3 214 rfl rfl)
theorem lk_Va_52 : gi_lk R_Va 52 y_Mt_abs := Or.inl (gi_m3 218 rfl rfl)
theorem lk_Va_58 : gi_lk R_Va 58 y_Mt_min_1 := Or.inl (gi_m3 221 rfl rfl)
theorem lk_Va_61 : gi_lk R_Va 61 y_Mt_max_0 := Or.inl (gi_m3 224 rfl rfl)
theorem lk_Ro_75 : gi_lk R_Ro 75 y_Va_spread := Or.inl (gi_m3 227 rfl rfl)
theorem lk_H_192 : gi_lk R_H 192 y_Pr_lengthOf := Or.inl (gi_m3 233 rfl rfl)
theorem lk_H_213 : gi_lk R_H 213 y_St_step := Or.inl (gi_m3 234 rfl rfl)
theorem lk_St_150 : gi_lk R_St 150 y_Ro_copy := Or.inl (gi_m3 238 rfl rfl)
theorem lk_St_153 : gi_lk R_St 153 y_Pr_opAt := Or.inl (gi_m3 239 rfl rfl)
theorem lk_St_157 : gi_lk R_St 157 y_Pr_operandAt := Or.inl (gi_m4 0 rfl rfl)
theorem lk_St_160 : gi_lk R_St 160 y_St_move := Or.inl (gi_m4 1 rfl rfl)
theorem lk_St_99 : gi_lk R_St 99 y_Va_copy := Or.inl (gi_m4 5 rfl rfl)
theorem lk_St_195 : gi_lk R_St 195 y_Ro_markTop := Or.inl (gi_m4 6 rfl rfl)
theorem lk_St_198 : gi_lk R_St 198 y_Ro_pop := Or.inl (gi_m4 7 rfl rfl)
theorem lk_St_202 : gi_lk R_St 202 y_Ro_dropMarks := Or.inl (gi_m4 11 rfl rfl)
theorem lk_St_205 : gi_lk R_St 205 y_Ro_swapTop := Or.inl (gi_m4 15 rfl rfl)
theorem lk_St_163 : gi_lk R_St 163 y_St_reckon := Or.inl (gi_m4 19 rfl rfl)
theorem lk_St_208 : gi_lk R_St 208 y_Va_loseAtEnds := Or.inl (gi_m4 23 rfl rfl)
theorem lk_Va_64 : gi_lk R_Va 64 y_Va_within := Or.inl (gi_m4 27 rfl rfl)
theorem lk_St_211 : gi_lk R_St 211 y_Va_isNothing := Or.inl (gi_m4 31 rfl rfl)
theorem lk_St_214 : gi_lk R_St 214 y_Ro_tell := Or.inl (gi_m4 32 rfl rfl)
theorem lk_St_218 : gi_lk R_St 218 y_Re_reckon := Or.inl (gi_m4 36 rfl rfl)
theorem lk_Re_35 : gi_lk R_Re 35 y_Re_turn := Or.inl (gi_m4 41 rfl rfl)
theorem lk_Re_74 : gi_lk R_Re 74 y_Va_beSpan := Or.inl (gi_m4 46 rfl rfl)
theorem lk_Re_80 : gi_lk R_Re 80 y_Mt_max_0 := Or.inl (gi_m4 48 rfl rfl)
theorem lk_Re_87 : gi_lk R_Re 87 y_Mt_floorMod := Or.inl (gi_m4 50 rfl rfl)
theorem lk_Re_39 : gi_lk R_Re 39 y_Va_isSingle := Or.inl (gi_m4 53 rfl rfl)
theorem lk_Re_43 : gi_lk R_Re 43 y_Re_times := Or.inl (gi_m4 57 rfl rfl)
theorem lk_Re_90 : gi_lk R_Re 90 y_Va_beSingle := Or.inl (gi_m4 61 rfl rfl)
theorem lk_Re_47 : gi_lk R_Re 47 y_Re_multiply := Or.inl (gi_m4 62 rfl rfl)
theorem lk_Re_94 : gi_lk R_Re 94 y_Mt_min_1 := Or.inl (gi_m4 66 rfl rfl)
theorem lk_Re_51 : gi_lk R_Re 51 y_Re_divide := Or.inl (gi_m4 67 rfl rfl)
theorem lk_Re_107 : gi_lk R_Re 107 y_Va_has := Or.inl (gi_m4 72 rfl rfl)
theorem lk_Re_63 : gi_lk R_Re 63 y_Va_beAll := Or.inl (gi_m4 76 rfl rfl)
theorem lk_Re_111 : gi_lk R_Re 111 y_Re_splitDivisor := Or.inl (gi_m4 77 rfl rfl)
theorem lk_Re_97 : gi_lk R_Re 97 y_Va_copy := Or.inl (gi_m4 81 rfl rfl)
theorem lk_Re_103 : gi_lk R_Re 103 y_Va_within := Or.inl (gi_m4 82 rfl rfl)
theorem lk_Re_114 : gi_lk R_Re 114 y_Va_beNothing := Or.inl (gi_m4 83 rfl rfl)
theorem lk_Re_117 : gi_lk R_Re 117 y_Re_reachQuotients := Or.inl (gi_m4 87 rfl rfl)
theorem lk_Re_120 : gi_lk R_Re 120 y_Va_isNothing := Or.inl (gi_m4 91 rfl rfl)
theorem lk_Re_123 : gi_lk R_Re 123 y_Va_reach := Or.inl (gi_m4 92 rfl rfl)
theorem lk_Re_54 : gi_lk R_Re 54 y_Re_remain := Or.inl (gi_m4 96 rfl rfl)
theorem lk_Re_126 : gi_lk R_Re 126 y_Mt_abs := Or.inl (gi_m4 100 rfl rfl)
theorem lk_Re_57 : gi_lk R_Re 57 y_Re_combine := Or.inl (gi_m4 101 rfl rfl)
theorem lk_Re_66 : gi_lk R_Re 66 y_Re_shiftRight := Or.inl (gi_m4 107 rfl rfl)
theorem lk_Re_69 : gi_lk R_Re 69 y_Re_shiftBare := Or.inl (gi_m4 111 rfl rfl)
theorem lk_St_167 : gi_lk R_St 167 y_Bu_isWide := Or.inl (gi_m4 115 rfl rfl)
theorem lk_St_172 : gi_lk R_St 172 y_St_compare := Or.inl (gi_m4 119 rfl rfl)
theorem lk_St_221 : gi_lk R_St 221 y_St_narrow := Or.inl (gi_m4 123 rfl rfl)
theorem lk_St_234 : gi_lk R_St 234 y_Va_within := Or.inl (gi_m4 127 rfl rfl)
theorem lk_St_238 : gi_lk R_St 238 y_Va_isSingle := Or.inl (gi_m4 128 rfl rfl)
theorem lk_St_224 : gi_lk R_St 224 y_St_opens := Or.inl (gi_m4 131 rfl rfl)
theorem lk_St_176 : gi_lk R_St 176 y_St_askNull := Or.inl (gi_m4 135 rfl rfl)
theorem lk_St_245 : gi_lk R_St 245 y_St_opensNull := Or.inl (gi_m4 139 rfl rfl)
theorem lk_St_179 : gi_lk R_St 179 y_St_makeArray := Or.inl (gi_m4 143 rfl rfl)
theorem lk_St_255 : gi_lk R_St 255 y_Bu_siteAt := Or.inl (gi_m4 147 rfl rfl)
theorem lk_St_258 : gi_lk R_St 258 y_Fa_lengthOf := Or.inl (gi_m4 151 rfl rfl)
theorem lk_St_262 : gi_lk R_St 262 y_St_alone := Or.inl (gi_m4 155 rfl rfl)
theorem lk_St_266 : gi_lk R_St 266 y_Fa_elementOf := Or.inl (gi_m4 159 rfl rfl)
theorem lk_St_183 : gi_lk R_St 183 y_St_useArray := Or.inl (gi_m4 163 rfl rfl)
theorem lk_St_275 : gi_lk R_St 275 y_St_gather := Or.inl (gi_m4 167 rfl rfl)
theorem lk_St_269 : gi_lk R_St 269 y_Va_beNothing := Or.inl (gi_m4 171 rfl rfl)
theorem lk_St_272 : gi_lk R_St 272 y_Va_both := Or.inl (gi_m4 172 rfl rfl)
theorem lk_St_186 : gi_lk R_St 186 y_St_enter := Or.inl (gi_m4 173 rfl rfl)
theorem lk_St_279 : gi_lk R_St 279 y_Fa_resultOf := Or.inl (gi_m4 177 rfl rfl)
theorem lk_St_189 : gi_lk R_St 189 y_St_giveBack := Or.inl (gi_m4 181 rfl rfl)
theorem lk_St_282 : gi_lk R_St 282 y_Pr_resultSort := Or.inl (gi_m4 185 rfl rfl)
theorem lk_St_192 : gi_lk R_St 192 y_St_useField := Or.inl (gi_m4 186 rfl rfl)
theorem lk_St_285 : gi_lk R_St 285 y_Fa_fieldOf := Or.inl (gi_m4 190 rfl rfl)
theorem lk_La_41 : gi_lk R_La 41 y_H_reached := Or.inl (gi_m4 194 rfl rfl)
theorem lk_H_126 : gi_lk R_H 126 y_Pr_hasPlace := Or.inl (gi_m4 198 rfl rfl)
theorem lk_H_130 : gi_lk R_H 130 y_Fa_stateAt := Or.inl (gi_m4 199 rfl rfl)
theorem lk_La_46 : gi_lk R_La 46 y_H_state := Or.inl (gi_m4 200 rfl rfl)
theorem lk_H_139 : gi_lk R_H 139 y_H_told := Or.inl (gi_m4 204 rfl rfl)
theorem lk_H_204 : gi_lk R_H 204 y_H_reached := Or.inl (gi_m4 208 rfl rfl)
theorem lk_H_144 : gi_lk R_H 144 y_H_indexOf := Or.inl (gi_m4 209 rfl rfl)
theorem lk_H_236 : gi_lk R_H 236 y_Pr_localsOf := Or.inl (gi_m4 213 rfl rfl)
theorem lk_H_173 : gi_lk R_H 173 y_Ro_valueAt := Or.inl (gi_m4 214 rfl rfl)
theorem lk_H_148 : gi_lk R_H 148 y_Ro_markAt := Or.inl (gi_m4 216 rfl rfl)
theorem lk_H_151 : gi_lk R_H 151 y_Va_part := Or.inl (gi_m4 220 rfl rfl)
theorem lk_La_51 : gi_lk R_La 51 y_H_site := Or.inl (gi_m4 225 rfl rfl)
theorem lk_H_160 : gi_lk R_H 160 y_Bu_siteMethod := Or.inl (gi_m4 229 rfl rfl)
theorem lk_H_163 : gi_lk R_H 163 y_Bu_sitePlace := Or.inl (gi_m4 233 rfl rfl)
theorem lk_H_166 : gi_lk R_H 166 y_Fa_lengthOf := Or.inl (gi_m4 237 rfl rfl)
theorem lk_H_170 : gi_lk R_H 170 y_Fa_elementOf := Or.inl (gi_m4 238 rfl rfl)
theorem lk_La_56 : gi_lk R_La 56 y_H_field := Or.inl (gi_m4 239 rfl rfl)
theorem lk_H_177 : gi_lk R_H 177 y_Fa_fieldOf := Or.inl (gi_m5 3 rfl rfl)
theorem lk_La_60 : gi_lk R_La 60 y_H_result := Or.inl (gi_m5 4 rfl rfl)
theorem lk_H_180 : gi_lk R_H 180 y_Pr_hasMethod := Or.inl (gi_m5 8 rfl rfl)
theorem lk_H_184 : gi_lk R_H 184 y_Fa_resultOf := Or.inl (gi_m5 9 rfl rfl)
theorem lk_La_64 : gi_lk R_La 64 y_H_verdict := Or.inl (gi_m5 10 rfl rfl)
theorem lk_H_190 : gi_lk R_H 190 y_Ju_judge := Or.inl (gi_m5 14 rfl rfl)
theorem lk_Ju_19 : gi_lk R_Ju 19 y_Fa_stateAt := Or.inl (gi_m5 18 rfl rfl)
theorem lk_Ju_31 : gi_lk R_Ju 31 y_Pr_opAt := Or.inl (gi_m5 19 rfl rfl)
theorem lk_Ju_41 : gi_lk R_Ju 41 y_Ro_valueAt := Or.inl (gi_m5 20 rfl rfl)
theorem lk_Ju_45 : gi_lk R_Ju 45 y_Va_has := Or.inl (gi_m5 21 rfl rfl)
theorem lk_Ju_51 : gi_lk R_Ju 51 y_Va_isSingle := Or.inl (gi_m5 22 rfl rfl)
theorem lk_Ju_68 : gi_lk R_Ju 68 y_Ju_judgeIndex := Or.inl (gi_m5 23 rfl rfl)
theorem lk_Ju_76 : gi_lk R_Ju 76 y_Fa_lengthOf := Or.inl (gi_m5 29 rfl rfl)
theorem lk_Ju_80 : gi_lk R_Ju 80 y_Mt_min_1 := Or.inl (gi_m5 30 rfl rfl)
theorem lk_Ju_86 : gi_lk R_Ju 86 y_Mt_max_0 := Or.inl (gi_m5 31 rfl rfl)
theorem lk_La_68 : gi_lk R_La 68 y_H_verdicts := Or.inl (gi_m5 32 rfl rfl)
theorem lk_H_194 : gi_lk R_H 194 y_Ju_howMany := Or.inl (gi_m5 36 rfl rfl)
theorem lk_Ju_89 : gi_lk R_Ju 89 y_Ju_canBe := Or.inl (gi_m5 40 rfl rfl)
theorem lk_Ju_93 : gi_lk R_Ju 93 y_Ju_judge := Or.inl (gi_m5 43 rfl rfl)
theorem lk_La_72 : gi_lk R_La 72 y_H_plant := Or.inl (gi_m5 44 rfl rfl)
theorem lk_H_200 : gi_lk R_H 200 y_Va_beSpan := Or.inl (gi_m5 48 rfl rfl)
theorem lk_La_77 : gi_lk R_La 77 y_H_forgetState := Or.inl (gi_m5 49 rfl rfl)
theorem lk_La_81 : gi_lk R_La 81 y_H_check := Or.inl (gi_m5 53 rfl rfl)
theorem lk_La_85 : gi_lk R_La 85 y_H_argument := Or.inl (gi_m5 57 rfl rfl)
theorem lk_H_217 : gi_lk R_H 217 y_Gi_add := Or.inl (gi_m5 61 rfl rfl)
theorem lk_La_90 : gi_lk R_La 90 y_H_fill := Or.inl (gi_m5 65 rfl rfl)
theorem lk_H_220 : gi_lk R_H 220 y_Gi_put := Or.inl (gi_m5 69 rfl rfl)
theorem lk_La_94 : gi_lk R_La 94 y_H_forget := Or.inl (gi_m5 73 rfl rfl)
theorem lk_La_98 : gi_lk R_La 98 y_H_run := Or.inl (gi_m5 77 rfl rfl)
theorem lk_H_224 : gi_lk R_H 224 y_Gi_fits := Or.inl (gi_m5 81 rfl rfl)
theorem lk_Gi_25 : gi_lk R_Gi 25 y_Pr_argumentsOf := Or.inl (gi_m5 85 rfl rfl)
theorem lk_Gi_31 : gi_lk R_Gi 31 y_Pr_holdsArray := Or.inl (gi_m5 86 rfl rfl)
theorem lk_H_228 : gi_lk R_H 228 y_Ma_make := Or.inl (gi_m5 87 rfl rfl)
theorem lk_Ma_64 : gi_lk R_Ma 64 y_Ma_begin := Or.inl (gi_m5 91 rfl rfl)
theorem lk_Ma_88 : gi_lk R_Ma 88 y_He_clear := Or.inl (gi_m5 95 rfl rfl)
theorem lk_Ma_91 : gi_lk R_Ma 91 y_Ar_fill_0 := Or.inl (gi_m5 99 rfl rfl)
theorem lk_Ma_97 : gi_lk R_Ma 97 y_Ar_fill_1 := Or.inl (gi_m5 102 rfl rfl)
theorem lk_Ma_100 : gi_lk R_Ma 100 y_Ma_openFrame := Or.inl (gi_m5 105 rfl rfl)
theorem lk_Ma_132 : gi_lk R_Ma 132 y_Pr_localsOf := Or.inl (gi_m5 109 rfl rfl)
theorem lk_Ma_135 : gi_lk R_Ma 135 y_Mt_max_0 := Or.inl (gi_m5 110 rfl rfl)
theorem lk_Ma_104 : gi_lk R_Ma 104 y_Pr_argumentsOf := Or.inl (gi_m5 111 rfl rfl)
theorem lk_Ma_110 : gi_lk R_Ma 110 y_Gi_kindOf := Or.inl (gi_m5 112 rfl rfl)
theorem lk_Ma_115 : gi_lk R_Ma 115 y_Gi_valueOf := Or.inl (gi_m5 116 rfl rfl)
theorem lk_Ma_118 : gi_lk R_Ma 118 y_Ma_bring := Or.inl (gi_m5 120 rfl rfl)
theorem lk_Ma_121 : gi_lk R_Ma 121 y_He_add := Or.inl (gi_m5 124 rfl rfl)
theorem lk_He_31 : gi_lk R_He 31 y_Ar_fill_2 := Or.inl (gi_m5 128 rfl rfl)
theorem lk_Ar_13 : gi_lk R_Ar 13 y_Ar_rangeCheck := Or.inl (gi_m5 131 rfl rfl)
theorem lk_Ma_125 : gi_lk R_Ma 125 y_Gi_intAt := Or.inl (gi_m5 134 rfl rfl)
theorem lk_Gi_35 : gi_lk R_Gi 35 y_Gi_kindOf := Or.inl (gi_m5 138 rfl rfl)
theorem lk_Ma_128 : gi_lk R_Ma 128 y_He_set := Or.inl (gi_m5 139 rfl rfl)
theorem lk_He_41 : gi_lk R_He 41 y_He_hasIndex := Or.inl (gi_m5 143 rfl rfl)
theorem lk_He_37 : gi_lk R_He 37 y_He_isArray := Or.inl (gi_m5 147 rfl rfl)
theorem lk_Ma_68 : gi_lk R_Ma 68 y_Ma_isTold := Or.inl (gi_m5 151 rfl rfl)
theorem lk_Ma_247 : gi_lk R_Ma 247 y_Fa_stateAt := Or.inl (gi_m5 155 rfl rfl)
theorem lk_Ma_237 : gi_lk R_Ma 237 y_Ro_valueAt := Or.inl (gi_m5 156 rfl rfl)
theorem lk_Ma_254 : gi_lk R_Ma 254 y_Ma_isToldBy := Or.inl (gi_m5 157 rfl rfl)
theorem lk_Ma_241 : gi_lk R_Ma 241 y_Va_has := Or.inl (gi_m5 161 rfl rfl)
theorem lk_Ma_221 : gi_lk R_Ma 221 y_He_siteOf := Or.inl (gi_m5 162 rfl rfl)
theorem lk_Ma_75 : gi_lk R_Ma 75 y_Ma_perform := Or.inl (gi_m5 166 rfl rfl)
theorem lk_Ma_141 : gi_lk R_Ma 141 y_Pr_opAt := Or.inl (gi_m5 170 rfl rfl)
theorem lk_Ma_144 : gi_lk R_Ma 144 y_Pr_operandAt := Or.inl (gi_m5 171 rfl rfl)
theorem lk_Ma_147 : gi_lk R_Ma 147 y_Ma_leave := Or.inl (gi_m5 172 rfl rfl)
theorem lk_Ma_226 : gi_lk R_Ma 226 y_Pr_resultSort := Or.inl (gi_m5 176 rfl rfl)
theorem lk_Ma_177 : gi_lk R_Ma 177 y_Ma_pop := Or.inl (gi_m5 177 rfl rfl)
theorem lk_Ma_212 : gi_lk R_Ma 212 y_He_lengthOf := Or.inl (gi_m5 181 rfl rfl)
theorem lk_Ma_171 : gi_lk R_Ma 171 y_Ma_push := Or.inl (gi_m5 185 rfl rfl)
theorem lk_Ma_150 : gi_lk R_Ma 150 y_Ma_move := Or.inl (gi_m5 189 rfl rfl)
theorem lk_Ma_174 : gi_lk R_Ma 174 y_Ma_hasLocal := Or.inl (gi_m5 193 rfl rfl)
theorem lk_Ma_153 : gi_lk R_Ma 153 y_Ma_reckon := Or.inl (gi_m5 197 rfl rfl)
theorem lk_Ma_180 : gi_lk R_Ma 180 y_Ma_goWrong := Or.inl (gi_m5 201 rfl rfl)
theorem lk_Ma_183 : gi_lk R_Ma 183 y_Ma_reckoned := Or.inl (gi_m5 205 rfl rfl)
theorem lk_Ma_156 : gi_lk R_Ma 156 y_Ma_jump := Or.inl (gi_m5 208 rfl rfl)
theorem lk_Ma_187 : gi_lk R_Ma 187 y_Ma_compares := Or.inl (gi_m5 212 rfl rfl)
theorem lk_Ma_159 : gi_lk R_Ma 159 y_Ma_makeArray := Or.inl (gi_m5 215 rfl rfl)
theorem lk_Ma_191 : gi_lk R_Ma 191 y_Bu_siteAt := Or.inl (gi_m5 219 rfl rfl)
theorem lk_Ma_196 : gi_lk R_Ma 196 y_Fa_lengthOf := Or.inl (gi_m5 220 rfl rfl)
theorem lk_Ma_202 : gi_lk R_Ma 202 y_Ma_tells := Or.inl (gi_m5 221 rfl rfl)
theorem lk_Ma_206 : gi_lk R_Ma 206 y_Fa_elementOf := Or.inl (gi_m5 224 rfl rfl)
theorem lk_Ma_162 : gi_lk R_Ma 162 y_Ma_useArray := Or.inl (gi_m5 225 rfl rfl)
theorem lk_Ma_209 : gi_lk R_Ma 209 y_He_isArray := Or.inl (gi_m5 229 rfl rfl)
theorem lk_Ma_214 : gi_lk R_Ma 214 y_He_hasIndex := Or.inl (gi_m5 230 rfl rfl)
theorem lk_Ma_218 : gi_lk R_Ma 218 y_He_get := Or.inl (gi_m5 231 rfl rfl)
theorem lk_Ma_165 : gi_lk R_Ma 165 y_Ma_enter := Or.inl (gi_m5 235 rfl rfl)
theorem lk_Ma_224 : gi_lk R_Ma 224 y_Mt_max_1 := Or.inl (gi_m5 239 rfl rfl)
theorem lk_Ma_168 : gi_lk R_Ma 168 y_Ma_useField := Or.inl (gi_m6 2 rfl rfl)
theorem lk_Ma_229 : gi_lk R_Ma 229 y_Fa_fieldOf := Or.inl (gi_m6 6 rfl rfl)
theorem lk_La_102 : gi_lk R_La 102 y_H_ran := Or.inl (gi_m6 7 rfl rfl)
theorem lk_H_231 : gi_lk R_H 231 y_Ma_told := Or.inl (gi_m6 11 rfl rfl)
theorem lk_La_107 : gi_lk R_La 107 y_H_outside := Or.inl (gi_m6 16 rfl rfl)
theorem lk_La_12 : gi_lk R_La 12 y_Mo_init := Or.inl (gi_m6 22 rfl rfl)
theorem lo_Mo_1 : Cond.methodLink R_Mo 1 Lib.objectInit ∈ gi_tb := (gi_m6 25 rfl rfl)
theorem lk_La_17 : gi_lk R_La 17 y_Mo_method := Or.inl (gi_m7 55 rfl rfl)
theorem lk_La_22 : gi_lk R_La 22 y_Mo_code := Or.inl (gi_m7 59 rfl rfl)
theorem lk_Mo_186 : gi_lk R_Mo 186 y_Mo_isMethod := Or.inl (gi_m7 63 rfl rfl)
theorem lk_La_27 : gi_lk R_La 27 y_Mo_wipe := Or.inl (gi_m7 67 rfl rfl)
theorem lk_La_32 : gi_lk R_La 32 y_Mo_build := Or.inl (gi_m7 71 rfl rfl)
theorem lk_Mo_217 : gi_lk R_Mo 217 y_Mo_isOperand := Or.inl (gi_m7 75 rfl rfl)
theorem lk_Mo_214 : gi_lk R_Mo 214 y_Mo_goesTo := Or.inl (gi_m7 79 rfl rfl)
theorem lk_Mo_221 : gi_lk R_Mo 221 y_Mo_fault := Or.inl (gi_m7 82 rfl rfl)
theorem lk_Mo_225 : gi_lk R_Mo 225 y_Mo_shapes := Or.inl (gi_m7 86 rfl rfl)
theorem lk_Mo_232 : gi_lk R_Mo 232 y_Mo_shape := Or.inl (gi_m7 90 rfl rfl)
theorem lk_Mo_203 : gi_lk R_Mo 203 y_Mo_puts := Or.inl (gi_m7 94 rfl rfl)
theorem lk_Mo_207 : gi_lk R_Mo 207 y_Mo_kindOf := Or.inl (gi_m7 98 rfl rfl)
theorem lk_Mo_211 : gi_lk R_Mo 211 y_Mo_takes := Or.inl (gi_m7 102 rfl rfl)
theorem lk_Mo_199 : gi_lk R_Mo 199 y_Mo_takesAny := Or.inl (gi_m7 106 rfl rfl)
theorem lk_Mo_236 : gi_lk R_Mo 236 y_Mo_goesOn := Or.inl (gi_m7 110 rfl rfl)
theorem lk_Mo_239 : gi_lk R_Mo 239 y_Mo_comes := Or.inl (gi_m7 113 rfl rfl)
theorem lk_La_36 : gi_lk R_La 36 y_Mo_faultAt := Or.inl (gi_m7 117 rfl rfl)
theorem lk_La_40 : gi_lk R_La 40 y_Mo_analyze := Or.inl (gi_m7 121 rfl rfl)
theorem lk_Mo_504 : gi_lk R_Mo 504 y_Mo_nothing := Or.inl (gi_m7 125 rfl rfl)
theorem lk_Mo_507 : gi_lk R_Mo 507 y_Mo_rootsCome := Or.inl (gi_m7 131 rfl rfl)
theorem lk_Mo_501 : gi_lk R_Mo 501 y_Mo_root := Or.inl (gi_m7 135 rfl rfl)
theorem lk_Mo_366 : gi_lk R_Mo 366 y_Mo_span := Or.inl (gi_m7 139 rfl rfl)
theorem lk_Mo_370 : gi_lk R_Mo 370 y_Mo_setOf := Or.inl (gi_m7 143 rfl rfl)
theorem lk_Mo_434 : gi_lk R_Mo 434 y_Mo_comeTo := Or.inl (gi_m7 147 rfl rfl)
theorem lk_Mo_398 : gi_lk R_Mo 398 y_Mo_isHeld := Or.inl (gi_m7 151 rfl rfl)
theorem lk_Mo_404 : gi_lk R_Mo 404 y_Mo_isSlot := Or.inl (gi_m7 155 rfl rfl)
theorem lk_Mo_408 : gi_lk R_Mo 408 y_Mo_isArray := Or.inl (gi_m7 159 rfl rfl)
theorem lk_Mo_418 : gi_lk R_Mo 418 y_Mo_isIn := Or.inl (gi_m7 163 rfl rfl)
theorem lk_Mo_411 : gi_lk R_Mo 411 y_Mo_both := Or.inl (gi_m7 166 rfl rfl)
theorem lk_Mo_252 : gi_lk R_Mo 252 y_Mo_min := Or.inl (gi_m7 170 rfl rfl)
theorem lk_Mo_256 : gi_lk R_Mo 256 y_Mo_max := Or.inl (gi_m7 173 rfl rfl)
theorem lk_Mo_259 : gi_lk R_Mo 259 y_Mo_gcd := Or.inl (gi_m7 176 rfl rfl)
theorem lk_Mo_262 : gi_lk R_Mo 262 y_Mo_set := Or.inl (gi_m7 179 rfl rfl)
theorem lk_Mo_414 : gi_lk R_Mo 414 y_Mo_moved := Or.inl (gi_m7 183 rfl rfl)
theorem lk_Mo_386 : gi_lk R_Mo 386 y_Mo_pointBelow := Or.inl (gi_m7 187 rfl rfl)
theorem lk_Mo_389 : gi_lk R_Mo 389 y_Mo_pointAbove := Or.inl (gi_m7 197 rfl rfl)
theorem lk_Mo_510 : gi_lk R_Mo 510 y_Mo_step := Or.inl (gi_m7 200 rfl rfl)
theorem lk_Mo_425 : gi_lk R_Mo 425 y_Mo_load := Or.inl (gi_m7 204 rfl rfl)
theorem lk_Mo_431 : gi_lk R_Mo 431 y_Mo_pushSpan := Or.inl (gi_m7 208 rfl rfl)
theorem lk_Mo_437 : gi_lk R_Mo 437 y_Mo_copy := Or.inl (gi_m7 212 rfl rfl)
theorem lk_Mo_441 : gi_lk R_Mo 441 y_Mo_pushSet := Or.inl (gi_m7 216 rfl rfl)
theorem lk_Mo_445 : gi_lk R_Mo 445 y_Mo_swap := Or.inl (gi_m7 220 rfl rfl)
theorem lk_Mo_448 : gi_lk R_Mo 448 y_Mo_keep := Or.inl (gi_m7 224 rfl rfl)
theorem lk_Mo_451 : gi_lk R_Mo 451 y_Mo_onNull := Or.inl (gi_m7 228 rfl rfl)
theorem lk_Mo_489 : gi_lk R_Mo 489 y_Mo_markedSet := Or.inl (gi_m7 232 rfl rfl)
theorem lk_Mo_455 : gi_lk R_Mo 455 y_Mo_again := Or.inl (gi_m7 236 rfl rfl)
theorem lk_Mo_458 : gi_lk R_Mo 458 y_Mo_make := Or.inl (gi_m8 0 rfl rfl)
theorem lk_Mo_317 : gi_lk R_Mo 317 y_Mo_within := Or.inl (gi_m8 4 rfl rfl)
theorem lk_Mo_266 : gi_lk R_Mo 266 y_Mo_upTo := Or.inl (gi_m8 8 rfl rfl)
theorem lk_Mo_270 : gi_lk R_Mo 270 y_Mo_downTo := Or.inl (gi_m8 11 rfl rfl)
theorem lk_Mo_470 : gi_lk R_Mo 470 y_Mo_tell := Or.inl (gi_m8 14 rfl rfl)
theorem lk_Mo_486 : gi_lk R_Mo 486 y_Mo_markedSpan := Or.inl (gi_m8 18 rfl rfl)
theorem lk_Mo_461 : gi_lk R_Mo 461 y_Mo_array := Or.inl (gi_m8 22 rfl rfl)
theorem lk_Mo_492 : gi_lk R_Mo 492 y_Mo_ofSites := Or.inl (gi_m8 26 rfl rfl)
theorem lk_Mo_464 : gi_lk R_Mo 464 y_Mo_call := Or.inl (gi_m8 30 rfl rfl)
theorem lk_Mo_467 : gi_lk R_Mo 467 y_Mo_returns := Or.inl (gi_m8 34 rfl rfl)
theorem lk_Mo_495 : gi_lk R_Mo 495 y_Mo_tellSet := Or.inl (gi_m8 38 rfl rfl)
theorem lk_Mo_473 : gi_lk R_Mo 473 y_Mo_reckon := Or.inl (gi_m8 42 rfl rfl)
theorem lk_Mo_479 : gi_lk R_Mo 479 y_Mo_act := Or.inl (gi_m8 46 rfl rfl)
theorem lk_Mo_282 : gi_lk R_Mo 282 y_Mo_turned := Or.inl (gi_m8 50 rfl rfl)
theorem lk_Mo_277 : gi_lk R_Mo 277 y_Mo_floor := Or.inl (gi_m8 55 rfl rfl)
theorem lk_Mo_287 : gi_lk R_Mo 287 y_Mo_times := Or.inl (gi_m8 58 rfl rfl)
theorem lk_Mo_291 : gi_lk R_Mo 291 y_Mo_low5 := Or.inl (gi_m8 62 rfl rfl)
theorem lk_Mo_295 : gi_lk R_Mo 295 y_Mo_all := Or.inl (gi_m8 66 rfl rfl)
theorem lk_Mo_299 : gi_lk R_Mo 299 y_Mo_over := Or.inl (gi_m8 70 rfl rfl)
theorem lk_Mo_340 : gi_lk R_Mo 340 y_Mo_has := Or.inl (gi_m8 75 rfl rfl)
theorem lk_Mo_344 : gi_lk R_Mo 344 y_Mo_parts := Or.inl (gi_m8 78 rfl rfl)
theorem lk_Mo_303 : gi_lk R_Mo 303 y_Mo_rest := Or.inl (gi_m8 84 rfl rfl)
theorem lk_Mo_307 : gi_lk R_Mo 307 y_Mo_logic := Or.inl (gi_m8 88 rfl rfl)
theorem lk_Mo_313 : gi_lk R_Mo 313 y_Mo_unsigned := Or.inl (gi_m8 93 rfl rfl)
theorem lk_Mo_483 : gi_lk R_Mo 483 y_Mo_withoutEnd := Or.inl (gi_m8 99 rfl rfl)
theorem lk_Mo_476 : gi_lk R_Mo 476 y_Mo_compared := Or.inl (gi_m8 103 rfl rfl)
theorem lk_Mo_513 : gi_lk R_Mo 513 y_Mo_anew := Or.inl (gi_m8 107 rfl rfl)
theorem lk_La_84 : gi_lk R_La 84 y_Mo_check := Or.inl (gi_m8 111 rfl rfl)
theorem lk_La_45 : gi_lk R_La 45 y_Mo_reached := Or.inl (gi_m8 115 rfl rfl)
theorem lk_Mo_516 : gi_lk R_Mo 516 y_Mo_isPlace := Or.inl (gi_m8 119 rfl rfl)
theorem lk_La_50 : gi_lk R_La 50 y_Mo_state := Or.inl (gi_m8 123 rfl rfl)
theorem lk_Mo_522 : gi_lk R_Mo 522 y_Mo_slotOf := Or.inl (gi_m8 127 rfl rfl)
theorem lk_Mo_519 : gi_lk R_Mo 519 y_Mo_reached := Or.inl (gi_m8 131 rfl rfl)
theorem lk_La_55 : gi_lk R_La 55 y_Mo_site := Or.inl (gi_m8 133 rfl rfl)
theorem lk_Mo_527 : gi_lk R_Mo 527 y_Mo_toldOf := Or.inl (gi_m8 137 rfl rfl)
theorem lk_La_59 : gi_lk R_La 59 y_Mo_field := Or.inl (gi_m8 141 rfl rfl)
theorem lk_La_63 : gi_lk R_La 63 y_Mo_result := Or.inl (gi_m8 145 rfl rfl)
theorem lk_La_67 : gi_lk R_La 67 y_Mo_verdict := Or.inl (gi_m8 149 rfl rfl)
theorem lk_Mo_531 : gi_lk R_Mo 531 y_Mo_verdictOf := Or.inl (gi_m8 153 rfl rfl)
theorem lk_Mo_534 : gi_lk R_Mo 534 y_Mo_asks := Or.inl (gi_m8 157 rfl rfl)
theorem lk_La_71 : gi_lk R_La 71 y_Mo_verdicts := Or.inl (gi_m8 161 rfl rfl)
theorem lk_La_76 : gi_lk R_La 76 y_Mo_plant := Or.inl (gi_m8 165 rfl rfl)
theorem lk_La_80 : gi_lk R_La 80 y_Mo_forgetState := Or.inl (gi_m8 169 rfl rfl)
theorem lk_La_89 : gi_lk R_La 89 y_Mo_argument := Or.inl (gi_m8 173 rfl rfl)
theorem lk_La_93 : gi_lk R_La 93 y_Mo_fill := Or.inl (gi_m8 177 rfl rfl)
theorem lk_La_97 : gi_lk R_La 97 y_Mo_forget := Or.inl (gi_m8 181 rfl rfl)
theorem lk_La_101 : gi_lk R_La 101 y_Mo_run := Or.inl (gi_m8 185 rfl rfl)
theorem lk_Mo_561 : gi_lk R_Mo 561 y_Mo_fits := Or.inl (gi_m8 189 rfl rfl)
theorem lk_Mo_549 : gi_lk R_Mo 549 y_Mo_isToldBy := Or.inl (gi_m8 193 rfl rfl)
theorem lk_Mo_576 : gi_lk R_Mo 576 y_Mo_enter := Or.inl (gi_m8 197 rfl rfl)
theorem lk_Mo_558 : gi_lk R_Mo 558 y_Mo_f := Or.inl (gi_m8 201 rfl rfl)
theorem lk_Mo_579 : gi_lk R_Mo 579 y_Mo_makeArray := Or.inl (gi_m8 205 rfl rfl)
theorem lk_Mo_582 : gi_lk R_Mo 582 y_Mo_look := Or.inl (gi_m8 209 rfl rfl)
theorem lk_Mo_585 : gi_lk R_Mo 585 y_Mo_one := Or.inl (gi_m8 213 rfl rfl)
theorem lk_Mo_588 : gi_lk R_Mo 588 y_Mo_pop := Or.inl (gi_m8 217 rfl rfl)
theorem lk_Mo_591 : gi_lk R_Mo 591 y_Mo_reckoned := Or.inl (gi_m8 221 rfl rfl)
theorem lk_Mo_594 : gi_lk R_Mo 594 y_Mo_push := Or.inl (gi_m8 224 rfl rfl)
theorem lk_Mo_597 : gi_lk R_Mo 597 y_Mo_isSo := Or.inl (gi_m8 228 rfl rfl)
theorem lk_Mo_600 : gi_lk R_Mo 600 y_Mo_other := Or.inl (gi_m8 231 rfl rfl)
theorem lk_Mo_604 : gi_lk R_Mo 604 y_Mo_made := Or.inl (gi_m8 235 rfl rfl)
theorem lk_Mo_607 : gi_lk R_Mo 607 y_Mo_touched := Or.inl (gi_m9 0 rfl rfl)
theorem lk_Mo_610 : gi_lk R_Mo 610 y_Mo_called := Or.inl (gi_m9 4 rfl rfl)
theorem lk_Mo_613 : gi_lk R_Mo 613 y_Mo_left := Or.inl (gi_m9 8 rfl rfl)
theorem lk_La_106 : gi_lk R_La 106 y_Mo_ran := Or.inl (gi_m9 12 rfl rfl)
theorem lk_La_110 : gi_lk R_La 110 y_Mo_outside := Or.inl (gi_m9 16 rfl rfl)
theorem lk_H_11 : gi_lk R_H 11 y_Pr_init := Or.inr ⟨R_H, List.mem_of_getElem? (i := 0) rfl⟩
theorem lk_Ro_21 : gi_lk R_Ro 21 y_Va_init := Or.inr ⟨R_H, List.mem_of_getElem? (i := 1) rfl⟩
theorem lk_St_11 : gi_lk R_St 11 y_Re_init := Or.inr ⟨R_H, List.mem_of_getElem? (i := 2) rfl⟩
theorem lk_Re_11 : gi_lk R_Re 11 y_Va_init := Or.inr ⟨R_H, List.mem_of_getElem? (i := 3) rfl⟩
theorem lk_St_38 : gi_lk R_St 38 y_Va_init := Or.inr ⟨R_H, List.mem_of_getElem? (i := 4) rfl⟩
theorem lk_H_55 : gi_lk R_H 55 y_Gi_init := Or.inr ⟨R_H, List.mem_of_getElem? (i := 5) rfl⟩
theorem lk_Ma_17 : gi_lk R_Ma 17 y_He_init := Or.inr ⟨R_H, List.mem_of_getElem? (i := 6) rfl⟩
theorem lk_Va_48 : gi_lk R_Va 48 y_H_gcd := Or.inr ⟨R_H, List.mem_of_getElem? (i := 7) rfl⟩
theorem lk_Re_31 : gi_lk R_Re 31 y_H_gcd := Or.inr ⟨R_H, List.mem_of_getElem? (i := 8) rfl⟩
theorem kc_H_118 : Cond.constant R_H 118 (1000000) ∈ gi_tb := (gi_m3 147 rfl rfl)
theorem kc_Mo_339 : Cond.constant R_Mo 339 (-2147483648) ∈ gi_tb := (gi_m8 74 rfl rfl)
theorem kc_Fa_49 : Cond.constantLong R_Fa 49 (2147483647) ∈ gi_tb := (gi_m3 135 rfl rfl)
theorem kc_Va_36 : Cond.constantLong R_Va 36 (-2147483648) ∈ gi_tb := (gi_m3 141 rfl rfl)
theorem kc_Va_38 : Cond.constantLong R_Va 38 (2147483647) ∈ gi_tb := (gi_m3 142 rfl rfl)
theorem kc_Re_72 : Cond.constantLong R_Re 72 (2147483647) ∈ gi_tb := (gi_m4 45 rfl rfl)
theorem kc_Re_78 : Cond.constantLong R_Re 78 (4294967296) ∈ gi_tb := (gi_m4 47 rfl rfl)
theorem kc_Re_85 : Cond.constantLong R_Re 85 (-2147483648) ∈ gi_tb := (gi_m4 49 rfl rfl)
theorem kc_Re_101 : Cond.constantLong R_Re 101 (-1) ∈ gi_tb := (gi_m4 71 rfl rfl)
theorem kc_Re_130 : Cond.constantLong R_Re 130 (2) ∈ gi_tb := (gi_m4 105 rfl rfl)
theorem kc_Re_61 : Cond.constantLong R_Re 61 (31) ∈ gi_tb := (gi_m4 106 rfl rfl)
theorem kc_St_241 : Cond.constantLong R_St 241 (-2147483648) ∈ gi_tb := (gi_m4 129 rfl rfl)
theorem kc_St_243 : Cond.constantLong R_St 243 (2147483647) ∈ gi_tb := (gi_m4 130 rfl rfl)
theorem kc_H_142 : Cond.constantLong R_H 142 (-4611686018427387904) ∈ gi_tb := (gi_m4 215 rfl rfl)
theorem kc_Va_72 : Cond.constantLong R_Va 72 (-4611686018427387904) ∈ gi_tb := (gi_m4 224 rfl rfl)
theorem kc_Ju_72 : Cond.constantLong R_Ju 72 (4294967296) ∈ gi_tb := (gi_m5 27 rfl rfl)
theorem kc_Ju_74 : Cond.constantLong R_Ju 74 (-1) ∈ gi_tb := (gi_m5 28 rfl rfl)
theorem kc_Ma_58 : Cond.constantLong R_Ma 58 (-4611686018427387904) ∈ gi_tb := (gi_m6 15 rfl rfl)
theorem kc_Mo_280 : Cond.constantLong R_Mo 280 (2147483647) ∈ gi_tb := (gi_m7 129 rfl rfl)
theorem kc_Mo_273 : Cond.constantLong R_Mo 273 (-2147483648) ∈ gi_tb := (gi_m7 130 rfl rfl)
theorem kc_Mo_374 : Cond.constantLong R_Mo 374 (65535) ∈ gi_tb := (gi_m7 190 rfl rfl)
theorem kc_Mo_376 : Cond.constantLong R_Mo 376 (32767) ∈ gi_tb := (gi_m7 191 rfl rfl)
theorem kc_Mo_378 : Cond.constantLong R_Mo 378 (255) ∈ gi_tb := (gi_m7 192 rfl rfl)
theorem kc_Mo_380 : Cond.constantLong R_Mo 380 (127) ∈ gi_tb := (gi_m7 193 rfl rfl)
theorem kc_Mo_311 : Cond.constantLong R_Mo 311 (-1) ∈ gi_tb := (gi_m7 194 rfl rfl)
theorem kc_Mo_382 : Cond.constantLong R_Mo 382 (-128) ∈ gi_tb := (gi_m7 195 rfl rfl)
theorem kc_Mo_384 : Cond.constantLong R_Mo 384 (-32768) ∈ gi_tb := (gi_m7 196 rfl rfl)
theorem kc_Mo_275 : Cond.constantLong R_Mo 275 (4294967296) ∈ gi_tb := (gi_m8 54 rfl rfl)
theorem kc_Mo_285 : Cond.constantLong R_Mo 285 (31) ∈ gi_tb := (gi_m8 65 rfl rfl)
theorem kc_Mo_347 : Cond.constantLong R_Mo 347 (9223372036854775807) ∈ gi_tb := (gi_m8 82 rfl rfl)
theorem kc_Mo_349 : Cond.constantLong R_Mo 349 (-9223372036854775807) ∈ gi_tb := (gi_m8 83 rfl rfl)
theorem kc_Mo_351 : Cond.constantLong R_Mo 351 (2) ∈ gi_tb := (gi_m8 92 rfl rfl)
theorem kc_Mo_353 : Cond.constantLong R_Mo 353 (4294967295) ∈ gi_tb := (gi_m8 97 rfl rfl)
theorem kc_Mo_355 : Cond.constantLong R_Mo 355 (32) ∈ gi_tb := (gi_m8 98 rfl rfl)
theorem kc_Mo_525 : Cond.constantLong R_Mo 525 (-4611686018427387904) ∈ gi_tb := (gi_m8 132 rfl rfl)
theorem kc_Mo_616 : Cond.constantLong R_Mo 616 (2000) ∈ gi_tb := (gi_m8 239 rfl rfl)
theorem ac_int : Cond.arrayClass .int ∈ gi_tb := (gi_m1 57 rfl rfl)
theorem ac_boolean : Cond.arrayClass .boolean ∈ gi_tb := (gi_m1 115 rfl rfl)
theorem ac_long : Cond.arrayClass .long ∈ gi_tb := (gi_m2 172 rfl rfl)
theorem ac_byte : Cond.arrayClass .byte ∈ gi_tb := (gi_m7 54 rfl rfl)
theorem ao_Ro : R_Ro ∈ gi_ao := List.mem_of_getElem? (i := 0) rfl
theorem ao_Va : R_Va ∈ gi_ao := List.mem_of_getElem? (i := 1) rfl
end LINKS

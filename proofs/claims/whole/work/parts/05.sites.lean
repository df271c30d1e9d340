/-! sites: fields, calls, constants by their words; methods as they are called; cells by number -/
theorem f_Nm_10 : FOK "NearMarks" 10 9 0 := ⟨CR9, CT9, 10, rfl, CI9, by decide, g_at 246 (by decide +kernel) (by decide +kernel)⟩
theorem f_Nm_19 : FOK "NearMarks" 19 9 1 := ⟨CR9, CT9, 10, rfl, CI9, by decide, g_at 247 (by decide +kernel) (by decide +kernel)⟩
theorem f_Nm_25 : FOK "NearMarks" 25 9 2 := ⟨CR9, CT9, 10, rfl, CI9, by decide, g_at 248 (by decide +kernel) (by decide +kernel)⟩
theorem f_Nm_33 : FOK "NearMarks" 33 9 3 := ⟨CR9, CT9, 10, rfl, CI9, by decide, g_at 249 (by decide +kernel) (by decide +kernel)⟩
theorem f_Nm_37 : FOK "NearMarks" 37 8 1 := ⟨CR8, CT8, 5, rfl, CI8, by decide, g_at 73 (by decide +kernel) (by decide +kernel)⟩
theorem fw_Nm_37 : FOKw "NearMarks" 37 8 1 .long := ⟨CR8, CT8, 5, CY8, rfl, CI8, by decide, g_at 73 (by decide +kernel) (by decide +kernel), CYok8, CN8, rfl, by decide +kernel⟩
theorem f_Nm_45 : FOK "NearMarks" 45 9 4 := ⟨CR9, CT9, 10, rfl, CI9, by decide, g_at 250 (by decide +kernel) (by decide +kernel)⟩
theorem f_Nm_51 : FOK "NearMarks" 51 9 5 := ⟨CR9, CT9, 10, rfl, CI9, by decide, g_at 251 (by decide +kernel) (by decide +kernel)⟩
theorem f_Nm_58 : FOK "NearMarks" 58 9 6 := ⟨CR9, CT9, 10, rfl, CI9, by decide, g_at 252 (by decide +kernel) (by decide +kernel)⟩
theorem f_Nm_65 : FOK "NearMarks" 65 9 7 := ⟨CR9, CT9, 10, rfl, CI9, by decide, g_at 253 (by decide +kernel) (by decide +kernel)⟩
theorem f_Nm_72 : FOK "NearMarks" 72 9 8 := ⟨CR9, CT9, 10, rfl, CI9, by decide, g_at 254 (by decide +kernel) (by decide +kernel)⟩
theorem f_Nm_79 : FOK "NearMarks" 79 9 9 := ⟨CR9, CT9, 10, rfl, CI9, by decide, g_at 255 (by decide +kernel) (by decide +kernel)⟩
theorem f_Nm_83 : FOK "NearMarks" 83 8 2 := ⟨CR8, CT8, 5, rfl, CI8, by decide, g_at 76 (by decide +kernel) (by decide +kernel)⟩
theorem fw_Nm_83 : FOKw "NearMarks" 83 8 2 .int := ⟨CR8, CT8, 5, CY8, rfl, CI8, by decide, g_at 76 (by decide +kernel) (by decide +kernel), CYok8, CN8, rfl, by decide +kernel⟩
theorem f_Nm_87 : FOK "NearMarks" 87 5 2 := ⟨CR5, CT5, 3, rfl, CI5, by decide, g_at 149 (by decide +kernel) (by decide +kernel)⟩
theorem fw_Nm_87 : FOKw "NearMarks" 87 5 2 .int := ⟨CR5, CT5, 3, CY5, rfl, CI5, by decide, g_at 149 (by decide +kernel) (by decide +kernel), CYok5, CN5, rfl, by decide +kernel⟩
theorem f_Nm_88 : FOK "NearMarks" 88 8 0 := ⟨CR8, CT8, 5, rfl, CI8, by decide, g_at 71 (by decide +kernel) (by decide +kernel)⟩
theorem fw_Nm_88 : FOKw "NearMarks" 88 8 0 .long := ⟨CR8, CT8, 5, CY8, rfl, CI8, by decide, g_at 71 (by decide +kernel) (by decide +kernel), CYok8, CN8, rfl, by decide +kernel⟩
theorem f_Nm_121 : FOK "NearMarks" 121 7 3 := ⟨CR7, CT7, 4, rfl, CI7, by decide, g_at 205 (by decide +kernel) (by decide +kernel)⟩
theorem fw_Nm_121 : FOKw "NearMarks" 121 7 3 .int := ⟨CR7, CT7, 4, CY7, rfl, CI7, by decide, g_at 205 (by decide +kernel) (by decide +kernel), CYok7, CN7, rfl, by decide +kernel⟩
theorem f_Nm_132 : FOK "NearMarks" 132 0 3 := ⟨CR0, CT0, 4, rfl, CI0, by decide, g_at 225 (by decide +kernel) (by decide +kernel)⟩
theorem fw_Nm_132 : FOKw "NearMarks" 132 0 3 .int := ⟨CR0, CT0, 4, CY0, rfl, CI0, by decide, g_at 225 (by decide +kernel) (by decide +kernel), CYok0, CN0, rfl, by decide +kernel⟩
theorem f_Nm_136 : FOK "NearMarks" 136 6 2 := ⟨CR6, CT6, 3, rfl, CI6, by decide, g_at 110 (by decide +kernel) (by decide +kernel)⟩
theorem fw_Nm_136 : FOKw "NearMarks" 136 6 2 .int := ⟨CR6, CT6, 3, CY6, rfl, CI6, by decide, g_at 110 (by decide +kernel) (by decide +kernel), CYok6, CN6, rfl, by decide +kernel⟩
theorem f_Nm_142 : FOK "NearMarks" 142 8 3 := ⟨CR8, CT8, 5, rfl, CI8, by decide, g_at 81 (by decide +kernel) (by decide +kernel)⟩
theorem f_Nm_147 : FOK "NearMarks" 147 8 4 := ⟨CR8, CT8, 5, rfl, CI8, by decide, g_at 84 (by decide +kernel) (by decide +kernel)⟩
theorem f_Nm_162 : FOK "NearMarks" 162 5 0 := ⟨CR5, CT5, 3, rfl, CI5, by decide, g_at 145 (by decide +kernel) (by decide +kernel)⟩
theorem f_Nm_165 : FOK "NearMarks" 165 5 1 := ⟨CR5, CT5, 3, rfl, CI5, by decide, g_at 147 (by decide +kernel) (by decide +kernel)⟩
theorem f_Nm_237 : FOK "NearMarks" 237 3 2 := ⟨CR3, CT3, 3, rfl, CI3, by decide, g_at 174 (by decide +kernel) (by decide +kernel)⟩
theorem fw_Nm_237 : FOKw "NearMarks" 237 3 2 .int := ⟨CR3, CT3, 3, CY3, rfl, CI3, by decide, g_at 174 (by decide +kernel) (by decide +kernel), CYok3, CN3, rfl, by decide +kernel⟩
theorem f_Nm_239 : FOK "NearMarks" 239 3 0 := ⟨CR3, CT3, 3, rfl, CI3, by decide, g_at 171 (by decide +kernel) (by decide +kernel)⟩
theorem f_Nm_271 : FOK "NearMarks" 271 2 0 := ⟨CR2, CT2, 1, rfl, CI2, by decide, g_at 242 (by decide +kernel) (by decide +kernel)⟩
theorem fw_Nm_271 : FOKw "NearMarks" 271 2 0 .int := ⟨CR2, CT2, 1, CY2, rfl, CI2, by decide, g_at 242 (by decide +kernel) (by decide +kernel), CYok2, CN2, rfl, by decide +kernel⟩
theorem f_Nm_274 : FOK "NearMarks" 274 4 0 := ⟨CR4, CT4, 3, rfl, CI4, by decide, g_at 128 (by decide +kernel) (by decide +kernel)⟩
theorem f_Nm_279 : FOK "NearMarks" 279 4 1 := ⟨CR4, CT4, 3, rfl, CI4, by decide, g_at 129 (by decide +kernel) (by decide +kernel)⟩
theorem fw_Nm_279 : FOKw "NearMarks" 279 4 1 .int := ⟨CR4, CT4, 3, CY4, rfl, CI4, by decide, g_at 129 (by decide +kernel) (by decide +kernel), CYok4, CN4, rfl, by decide +kernel⟩
theorem f_Nm_281 : FOK "NearMarks" 281 4 2 := ⟨CR4, CT4, 3, rfl, CI4, by decide, g_at 130 (by decide +kernel) (by decide +kernel)⟩
theorem fw_Nm_281 : FOKw "NearMarks" 281 4 2 .boolean := ⟨CR4, CT4, 3, CY4, rfl, CI4, by decide, g_at 130 (by decide +kernel) (by decide +kernel), CYok4, CN4, rfl, by decide +kernel⟩
theorem f_Bk_9 : FOK "NearMarks$Book" 9 0 0 := ⟨CR0, CT0, 4, rfl, CI0, by decide, g_at 221 (by decide +kernel) (by decide +kernel)⟩
theorem f_Bk_15 : FOK "NearMarks$Book" 15 0 1 := ⟨CR0, CT0, 4, rfl, CI0, by decide, g_at 222 (by decide +kernel) (by decide +kernel)⟩
theorem f_Bk_18 : FOK "NearMarks$Book" 18 0 2 := ⟨CR0, CT0, 4, rfl, CI0, by decide, g_at 223 (by decide +kernel) (by decide +kernel)⟩
theorem f_Bk_21 : FOK "NearMarks$Book" 21 0 3 := ⟨CR0, CT0, 4, rfl, CI0, by decide, g_at 224 (by decide +kernel) (by decide +kernel)⟩
theorem fw_Bk_21 : FOKw "NearMarks$Book" 21 0 3 .int := ⟨CR0, CT0, 4, CY0, rfl, CI0, by decide, g_at 224 (by decide +kernel) (by decide +kernel), CYok0, CN0, rfl, by decide +kernel⟩
theorem f_Co_9 : FOK "NearMarks$Columns" 9 1 0 := ⟨CR1, CT1, 2, rfl, CI1, by decide, g_at 188 (by decide +kernel) (by decide +kernel)⟩
theorem f_Co_15 : FOK "NearMarks$Columns" 15 8 2 := ⟨CR8, CT8, 5, rfl, CI8, by decide, g_at 74 (by decide +kernel) (by decide +kernel)⟩
theorem fw_Co_15 : FOKw "NearMarks$Columns" 15 8 2 .int := ⟨CR8, CT8, 5, CY8, rfl, CI8, by decide, g_at 74 (by decide +kernel) (by decide +kernel), CYok8, CN8, rfl, by decide +kernel⟩
theorem f_Co_21 : FOK "NearMarks$Columns" 21 1 1 := ⟨CR1, CT1, 2, rfl, CI1, by decide, g_at 189 (by decide +kernel) (by decide +kernel)⟩
theorem fw_Co_21 : FOKw "NearMarks$Columns" 21 1 1 .long := ⟨CR1, CT1, 2, CY1, rfl, CI1, by decide, g_at 189 (by decide +kernel) (by decide +kernel), CYok1, CN1, rfl, by decide +kernel⟩
theorem f_Co_25 : FOK "NearMarks$Columns" 25 8 3 := ⟨CR8, CT8, 5, rfl, CI8, by decide, g_at 80 (by decide +kernel) (by decide +kernel)⟩
theorem f_Dr_7 : FOK "NearMarks$Draws" 7 2 0 := ⟨CR2, CT2, 1, rfl, CI2, by decide, g_at 241 (by decide +kernel) (by decide +kernel)⟩
theorem fw_Dr_7 : FOKw "NearMarks$Draws" 7 2 0 .int := ⟨CR2, CT2, 1, CY2, rfl, CI2, by decide, g_at 241 (by decide +kernel) (by decide +kernel), CYok2, CN2, rfl, by decide +kernel⟩
theorem f_Gr_9 : FOK "NearMarks$Grouping" 9 3 0 := ⟨CR3, CT3, 3, rfl, CI3, by decide, g_at 170 (by decide +kernel) (by decide +kernel)⟩
theorem f_Gr_15 : FOK "NearMarks$Grouping" 15 3 1 := ⟨CR3, CT3, 3, rfl, CI3, by decide, g_at 172 (by decide +kernel) (by decide +kernel)⟩
theorem f_Gr_18 : FOK "NearMarks$Grouping" 18 3 2 := ⟨CR3, CT3, 3, rfl, CI3, by decide, g_at 173 (by decide +kernel) (by decide +kernel)⟩
theorem fw_Gr_18 : FOKw "NearMarks$Grouping" 18 3 2 .int := ⟨CR3, CT3, 3, CY3, rfl, CI3, by decide, g_at 173 (by decide +kernel) (by decide +kernel), CYok3, CN3, rfl, by decide +kernel⟩
theorem f_Gr_26 : FOK "NearMarks$Grouping" 26 8 2 := ⟨CR8, CT8, 5, rfl, CI8, by decide, g_at 77 (by decide +kernel) (by decide +kernel)⟩
theorem fw_Gr_26 : FOKw "NearMarks$Grouping" 26 8 2 .int := ⟨CR8, CT8, 5, CY8, rfl, CI8, by decide, g_at 77 (by decide +kernel) (by decide +kernel), CYok8, CN8, rfl, by decide +kernel⟩
theorem f_Im_10 : FOK "NearMarks$Image" 10 4 0 := ⟨CR4, CT4, 3, rfl, CI4, by decide, g_at 127 (by decide +kernel) (by decide +kernel)⟩
theorem f_Pt_9 : FOK "NearMarks$Parts" 9 5 0 := ⟨CR5, CT5, 3, rfl, CI5, by decide, g_at 144 (by decide +kernel) (by decide +kernel)⟩
theorem f_Pt_15 : FOK "NearMarks$Parts" 15 5 1 := ⟨CR5, CT5, 3, rfl, CI5, by decide, g_at 146 (by decide +kernel) (by decide +kernel)⟩
theorem f_Pt_19 : FOK "NearMarks$Parts" 19 5 2 := ⟨CR5, CT5, 3, rfl, CI5, by decide, g_at 148 (by decide +kernel) (by decide +kernel)⟩
theorem fw_Pt_19 : FOKw "NearMarks$Parts" 19 5 2 .int := ⟨CR5, CT5, 3, CY5, rfl, CI5, by decide, g_at 148 (by decide +kernel) (by decide +kernel), CYok5, CN5, rfl, by decide +kernel⟩
theorem f_Pa_11 : FOK "NearMarks$Past" 11 6 0 := ⟨CR6, CT6, 3, rfl, CI6, by decide, g_at 107 (by decide +kernel) (by decide +kernel)⟩
theorem f_Pa_18 : FOK "NearMarks$Past" 18 6 1 := ⟨CR6, CT6, 3, rfl, CI6, by decide, g_at 108 (by decide +kernel) (by decide +kernel)⟩
theorem fw_Pa_18 : FOKw "NearMarks$Past" 18 6 1 .int := ⟨CR6, CT6, 3, CY6, rfl, CI6, by decide, g_at 108 (by decide +kernel) (by decide +kernel), CYok6, CN6, rfl, by decide +kernel⟩
theorem f_Pa_26 : FOK "NearMarks$Past" 26 6 2 := ⟨CR6, CT6, 3, rfl, CI6, by decide, g_at 109 (by decide +kernel) (by decide +kernel)⟩
theorem fw_Pa_26 : FOKw "NearMarks$Past" 26 6 2 .int := ⟨CR6, CT6, 3, CY6, rfl, CI6, by decide, g_at 109 (by decide +kernel) (by decide +kernel), CYok6, CN6, rfl, by decide +kernel⟩
theorem f_Si_9 : FOK "NearMarks$Sightings" 9 7 0 := ⟨CR7, CT7, 4, rfl, CI7, by decide, g_at 201 (by decide +kernel) (by decide +kernel)⟩
theorem f_Si_15 : FOK "NearMarks$Sightings" 15 7 1 := ⟨CR7, CT7, 4, rfl, CI7, by decide, g_at 202 (by decide +kernel) (by decide +kernel)⟩
theorem f_Si_19 : FOK "NearMarks$Sightings" 19 7 2 := ⟨CR7, CT7, 4, rfl, CI7, by decide, g_at 203 (by decide +kernel) (by decide +kernel)⟩
theorem f_Si_22 : FOK "NearMarks$Sightings" 22 7 3 := ⟨CR7, CT7, 4, rfl, CI7, by decide, g_at 204 (by decide +kernel) (by decide +kernel)⟩
theorem fw_Si_22 : FOKw "NearMarks$Sightings" 22 7 3 .int := ⟨CR7, CT7, 4, CY7, rfl, CI7, by decide, g_at 204 (by decide +kernel) (by decide +kernel), CYok7, CN7, rfl, by decide +kernel⟩
theorem f_Si_30 : FOK "NearMarks$Sightings" 30 8 2 := ⟨CR8, CT8, 5, rfl, CI8, by decide, g_at 78 (by decide +kernel) (by decide +kernel)⟩
theorem fw_Si_30 : FOKw "NearMarks$Sightings" 30 8 2 .int := ⟨CR8, CT8, 5, CY8, rfl, CI8, by decide, g_at 78 (by decide +kernel) (by decide +kernel), CYok8, CN8, rfl, by decide +kernel⟩
theorem f_Si_33 : FOK "NearMarks$Sightings" 33 8 3 := ⟨CR8, CT8, 5, rfl, CI8, by decide, g_at 82 (by decide +kernel) (by decide +kernel)⟩
theorem f_St_11 : FOK "NearMarks$State" 11 8 1 := ⟨CR8, CT8, 5, rfl, CI8, by decide, g_at 72 (by decide +kernel) (by decide +kernel)⟩
theorem fw_St_11 : FOKw "NearMarks$State" 11 8 1 .long := ⟨CR8, CT8, 5, CY8, rfl, CI8, by decide, g_at 72 (by decide +kernel) (by decide +kernel), CYok8, CN8, rfl, by decide +kernel⟩
theorem f_St_17 : FOK "NearMarks$State" 17 8 3 := ⟨CR8, CT8, 5, rfl, CI8, by decide, g_at 79 (by decide +kernel) (by decide +kernel)⟩
theorem f_St_21 : FOK "NearMarks$State" 21 8 4 := ⟨CR8, CT8, 5, rfl, CI8, by decide, g_at 83 (by decide +kernel) (by decide +kernel)⟩
theorem f_St_25 : FOK "NearMarks$State" 25 8 0 := ⟨CR8, CT8, 5, rfl, CI8, by decide, g_at 70 (by decide +kernel) (by decide +kernel)⟩
theorem fw_St_25 : FOKw "NearMarks$State" 25 8 0 .long := ⟨CR8, CT8, 5, CY8, rfl, CI8, by decide, g_at 70 (by decide +kernel) (by decide +kernel), CYok8, CN8, rfl, by decide +kernel⟩
theorem f_St_28 : FOK "NearMarks$State" 28 8 2 := ⟨CR8, CT8, 5, rfl, CI8, by decide, g_at 75 (by decide +kernel) (by decide +kernel)⟩
theorem fw_St_28 : FOKw "NearMarks$State" 28 8 2 .int := ⟨CR8, CT8, 5, CY8, rfl, CI8, by decide, g_at 75 (by decide +kernel) (by decide +kernel), CYok8, CN8, rfl, by decide +kernel⟩
theorem f_Mo_7 : FOK "NearMarksModel" 7 10 0 := ⟨CR10, CT10, 19, rfl, CI10, by decide, g_at 661 (by decide +kernel) (by decide +kernel)⟩
theorem f_Mo_13 : FOK "NearMarksModel" 13 10 1 := ⟨CR10, CT10, 19, rfl, CI10, by decide, g_at 662 (by decide +kernel) (by decide +kernel)⟩
theorem f_Mo_17 : FOK "NearMarksModel" 17 10 3 := ⟨CR10, CT10, 19, rfl, CI10, by decide, g_at 664 (by decide +kernel) (by decide +kernel)⟩
theorem f_Mo_20 : FOK "NearMarksModel" 20 10 4 := ⟨CR10, CT10, 19, rfl, CI10, by decide, g_at 665 (by decide +kernel) (by decide +kernel)⟩
theorem f_Mo_23 : FOK "NearMarksModel" 23 10 5 := ⟨CR10, CT10, 19, rfl, CI10, by decide, g_at 666 (by decide +kernel) (by decide +kernel)⟩
theorem f_Mo_26 : FOK "NearMarksModel" 26 10 6 := ⟨CR10, CT10, 19, rfl, CI10, by decide, g_at 667 (by decide +kernel) (by decide +kernel)⟩
theorem f_Mo_29 : FOK "NearMarksModel" 29 10 7 := ⟨CR10, CT10, 19, rfl, CI10, by decide, g_at 668 (by decide +kernel) (by decide +kernel)⟩
theorem f_Mo_32 : FOK "NearMarksModel" 32 10 8 := ⟨CR10, CT10, 19, rfl, CI10, by decide, g_at 669 (by decide +kernel) (by decide +kernel)⟩
theorem f_Mo_36 : FOK "NearMarksModel" 36 10 11 := ⟨CR10, CT10, 19, rfl, CI10, by decide, g_at 672 (by decide +kernel) (by decide +kernel)⟩
theorem f_Mo_39 : FOK "NearMarksModel" 39 10 12 := ⟨CR10, CT10, 19, rfl, CI10, by decide, g_at 673 (by decide +kernel) (by decide +kernel)⟩
theorem f_Mo_42 : FOK "NearMarksModel" 42 10 14 := ⟨CR10, CT10, 19, rfl, CI10, by decide, g_at 675 (by decide +kernel) (by decide +kernel)⟩
theorem f_Mo_45 : FOK "NearMarksModel" 45 10 15 := ⟨CR10, CT10, 19, rfl, CI10, by decide, g_at 676 (by decide +kernel) (by decide +kernel)⟩
theorem f_Mo_48 : FOK "NearMarksModel" 48 10 16 := ⟨CR10, CT10, 19, rfl, CI10, by decide, g_at 677 (by decide +kernel) (by decide +kernel)⟩
theorem f_Mo_51 : FOK "NearMarksModel" 51 10 17 := ⟨CR10, CT10, 19, rfl, CI10, by decide, g_at 678 (by decide +kernel) (by decide +kernel)⟩
theorem f_Mo_54 : FOK "NearMarksModel" 54 10 18 := ⟨CR10, CT10, 19, rfl, CI10, by decide, g_at 679 (by decide +kernel) (by decide +kernel)⟩
theorem f_Mo_100 : FOK "NearMarksModel" 100 10 10 := ⟨CR10, CT10, 19, rfl, CI10, by decide, g_at 671 (by decide +kernel) (by decide +kernel)⟩
theorem fw_Mo_100 : FOKw "NearMarksModel" 100 10 10 .int := ⟨CR10, CT10, 19, CY10, rfl, CI10, by decide, g_at 671 (by decide +kernel) (by decide +kernel), CYok10, CN10, rfl, by decide +kernel⟩
theorem f_Mo_111 : FOK "NearMarksModel" 111 10 13 := ⟨CR10, CT10, 19, rfl, CI10, by decide, g_at 674 (by decide +kernel) (by decide +kernel)⟩
theorem fw_Mo_111 : FOKw "NearMarksModel" 111 10 13 .int := ⟨CR10, CT10, 19, CY10, rfl, CI10, by decide, g_at 674 (by decide +kernel) (by decide +kernel), CYok10, CN10, rfl, by decide +kernel⟩
theorem f_Mo_141 : FOK "NearMarksModel" 141 10 2 := ⟨CR10, CT10, 19, rfl, CI10, by decide, g_at 663 (by decide +kernel) (by decide +kernel)⟩
theorem fw_Mo_141 : FOKw "NearMarksModel" 141 10 2 .int := ⟨CR10, CT10, 19, CY10, rfl, CI10, by decide, g_at 663 (by decide +kernel) (by decide +kernel), CYok10, CN10, rfl, by decide +kernel⟩
theorem f_Mo_181 : FOK "NearMarksModel" 181 10 9 := ⟨CR10, CT10, 19, rfl, CI10, by decide, g_at 670 (by decide +kernel) (by decide +kernel)⟩
theorem fw_Mo_181 : FOKw "NearMarksModel" 181 10 9 .int := ⟨CR10, CT10, 19, CY10, rfl, CI10, by decide, g_at 670 (by decide +kernel) (by decide +kernel), CYok10, CN10, rfl, by decide +kernel⟩
theorem w_Nm_9 : Cond.methodLink "NearMarks" 9 y_St_init ∈ gtbl := g_at 65 (by decide +kernel) (by decide +kernel)
theorem w_Nm_18 : Cond.methodLink "NearMarks" 18 y_Pa_init ∈ gtbl := g_at 100 (by decide +kernel) (by decide +kernel)
theorem w_Nm_29 : Cond.methodLink "NearMarks" 29 y_Im_init ∈ gtbl := g_at 121 (by decide +kernel) (by decide +kernel)
theorem w_Nm_32 : Cond.methodLink "NearMarks" 32 y_Pt_init ∈ gtbl := g_at 140 (by decide +kernel) (by decide +kernel)
theorem w_Nm_41 : Cond.methodLink "NearMarks" 41 y_Pt_beginAt ∈ gtbl := g_at 157 (by decide +kernel) (by decide +kernel)
theorem w_Nm_50 : Cond.methodLink "NearMarks" 50 y_Gr_init ∈ gtbl := g_at 166 (by decide +kernel) (by decide +kernel)
theorem w_Nm_57 : Cond.methodLink "NearMarks" 57 y_Co_init ∈ gtbl := g_at 184 (by decide +kernel) (by decide +kernel)
theorem w_Nm_64 : Cond.methodLink "NearMarks" 64 y_Si_init ∈ gtbl := g_at 197 (by decide +kernel) (by decide +kernel)
theorem w_Nm_71 : Cond.methodLink "NearMarks" 71 y_Bk_init ∈ gtbl := g_at 217 (by decide +kernel) (by decide +kernel)
theorem w_Nm_91 : Cond.methodLink "NearMarks" 91 y_Lg_bitCount ∈ gtbl := g_at 281 (by decide +kernel) (by decide +kernel)
theorem w_Nm_97 : Cond.methodLink "NearMarks" 97 y_St_numberOf ∈ gtbl := g_at 287 (by decide +kernel) (by decide +kernel)
theorem w_Nm_100 : Cond.methodLink "NearMarks" 100 y_Nm_countLookedAt ∈ gtbl := g_at 291 (by decide +kernel) (by decide +kernel)
theorem w_Nm_104 : Cond.methodLink "NearMarks" 104 y_Pt_reach ∈ gtbl := g_at 306 (by decide +kernel) (by decide +kernel)
theorem w_Nm_108 : Cond.methodLink "NearMarks" 108 y_St_byDistance ∈ gtbl := g_at 310 (by decide +kernel) (by decide +kernel)
theorem w_Nm_111 : Cond.methodLink "NearMarks" 111 y_Nm_leastDistance ∈ gtbl := g_at 319 (by decide +kernel) (by decide +kernel)
theorem w_Nm_114 : Cond.methodLink "NearMarks" 114 y_Co_countDead ∈ gtbl := g_at 327 (by decide +kernel) (by decide +kernel)
theorem w_Nm_118 : Cond.methodLink "NearMarks" 118 y_Co_firstPair ∈ gtbl := g_at 339 (by decide +kernel) (by decide +kernel)
theorem w_Nm_122 : Cond.methodLink "NearMarks" 122 y_Si_fitting ∈ gtbl := g_at 347 (by decide +kernel) (by decide +kernel)
theorem w_Nm_126 : Cond.methodLink "NearMarks" 126 y_Si_leastFitting ∈ gtbl := g_at 356 (by decide +kernel) (by decide +kernel)
theorem w_Nm_129 : Cond.methodLink "NearMarks" 129 y_Si_bestToAsk ∈ gtbl := g_at 365 (by decide +kernel) (by decide +kernel)
theorem w_Nm_133 : Cond.methodLink "NearMarks" 133 y_Bk_firstWrong ∈ gtbl := g_at 382 (by decide +kernel) (by decide +kernel)
theorem w_Nm_138 : Cond.methodLink "NearMarks" 138 y_St_has ∈ gtbl := g_at 323 (by decide +kernel) (by decide +kernel)
theorem w_Nm_151 : Cond.methodLink "NearMarks" 151 y_St_fromHand ∈ gtbl := g_at 295 (by decide +kernel) (by decide +kernel)
theorem w_Nm_154 : Cond.methodLink "NearMarks" 154 y_Nm_countOthersWithin ∈ gtbl := g_at 410 (by decide +kernel) (by decide +kernel)
theorem w_Nm_158 : Cond.methodLink "NearMarks" 158 y_Pt_anyAlike ∈ gtbl := g_at 302 (by decide +kernel) (by decide +kernel)
theorem w_Nm_168 : Cond.methodLink "NearMarks" 168 y_Nm_countWithPart ∈ gtbl := g_at 419 (by decide +kernel) (by decide +kernel)
theorem w_Nm_171 : Cond.methodLink "NearMarks" 171 y_St_between ∈ gtbl := g_at 414 (by decide +kernel) (by decide +kernel)
theorem w_Nm_174 : Cond.methodLink "NearMarks" 174 y_Pa_remember ∈ gtbl := g_at 427 (by decide +kernel) (by decide +kernel)
theorem w_Nm_178 : Cond.methodLink "NearMarks" 178 y_Pi_withRow ∈ gtbl := g_at 438 (by decide +kernel) (by decide +kernel)
theorem w_Nm_184 : Cond.methodLink "NearMarks" 184 y_Pi_turned ∈ gtbl := g_at 451 (by decide +kernel) (by decide +kernel)
theorem w_Nm_188 : Cond.methodLink "NearMarks" 188 y_Pi_firstRow ∈ gtbl := g_at 461 (by decide +kernel) (by decide +kernel)
theorem w_Nm_191 : Cond.methodLink "NearMarks" 191 y_Pi_mirrored ∈ gtbl := g_at 468 (by decide +kernel) (by decide +kernel)
theorem w_Nm_194 : Cond.methodLink "NearMarks" 194 y_Nm_isKind ∈ gtbl := g_at 479 (by decide +kernel) (by decide +kernel)
theorem w_Nm_199 : Cond.methodLink "NearMarks" 199 y_St_addHand ∈ gtbl := g_at 484 (by decide +kernel) (by decide +kernel)
theorem w_Nm_203 : Cond.methodLink "NearMarks" 203 y_St_remove ∈ gtbl := g_at 496 (by decide +kernel) (by decide +kernel)
theorem w_Nm_206 : Cond.methodLink "NearMarks" 206 y_Nm_changeHandByDraws ∈ gtbl := g_at 508 (by decide +kernel) (by decide +kernel)
theorem w_Nm_209 : Cond.methodLink "NearMarks" 209 y_Nm_putIfUnlikeAll ∈ gtbl := g_at 525 (by decide +kernel) (by decide +kernel)
theorem w_Nm_212 : Cond.methodLink "NearMarks" 212 y_Pa_bringBack ∈ gtbl := g_at 533 (by decide +kernel) (by decide +kernel)
theorem w_Nm_216 : Cond.methodLink "NearMarks" 216 y_Dr_next ∈ gtbl := g_at 512 (by decide +kernel) (by decide +kernel)
theorem w_Nm_219 : Cond.methodLink "NearMarks" 219 y_Pi_ofEqualRows ∈ gtbl := g_at 521 (by decide +kernel) (by decide +kernel)
theorem w_Nm_223 : Cond.methodLink "NearMarks" 223 y_Nm_isDistance ∈ gtbl := g_at 541 (by decide +kernel) (by decide +kernel)
theorem w_Nm_226 : Cond.methodLink "NearMarks" 226 y_Nm_isNear ∈ gtbl := g_at 544 (by decide +kernel) (by decide +kernel)
theorem w_Nm_230 : Cond.methodLink "NearMarks" 230 y_St_hasBoth ∈ gtbl := g_at 556 (by decide +kernel) (by decide +kernel)
theorem w_Nm_233 : Cond.methodLink "NearMarks" 233 y_Gr_join ∈ gtbl := g_at 561 (by decide +kernel) (by decide +kernel)
theorem w_Nm_238 : Cond.methodLink "NearMarks" 238 y_Gr_has ∈ gtbl := g_at 579 (by decide +kernel) (by decide +kernel)
theorem w_Nm_242 : Cond.methodLink "NearMarks" 242 y_Nm_leastOf ∈ gtbl := g_at 583 (by decide +kernel) (by decide +kernel)
theorem w_Nm_245 : Cond.methodLink "NearMarks" 245 y_St_widthOf ∈ gtbl := g_at 584 (by decide +kernel) (by decide +kernel)
theorem w_Nm_248 : Cond.methodLink "NearMarks" 248 y_Co_mostOf ∈ gtbl := g_at 595 (by decide +kernel) (by decide +kernel)
theorem w_Nm_252 : Cond.methodLink "NearMarks" 252 y_Pt_beginEvenly ∈ gtbl := g_at 604 (by decide +kernel) (by decide +kernel)
theorem w_Nm_256 : Cond.methodLink "NearMarks" 256 y_Nm_countAllLooks ∈ gtbl := g_at 613 (by decide +kernel) (by decide +kernel)
theorem w_Nm_260 : Cond.methodLink "NearMarks" 260 y_Nm_hasBit ∈ gtbl := g_at 364 (by decide +kernel) (by decide +kernel)
theorem w_Nm_264 : Cond.methodLink "NearMarks" 264 y_Si_add ∈ gtbl := g_at 621 (by decide +kernel) (by decide +kernel)
theorem w_Nm_268 : Cond.methodLink "NearMarks" 268 y_Bk_add ∈ gtbl := g_at 629 (by decide +kernel) (by decide +kernel)
theorem w_Nm_276 : Cond.methodLink "NearMarks" 276 y_St_become ∈ gtbl := g_at 645 (by decide +kernel) (by decide +kernel)
theorem w_Nm_285 : Cond.methodLink "NearMarks" 285 y_Pa_forget ∈ gtbl := g_at 646 (by decide +kernel) (by decide +kernel)
theorem w_Bk_25 : Cond.methodLink "NearMarks$Book" 25 y_Bk_isRight ∈ gtbl := g_at 386 (by decide +kernel) (by decide +kernel)
theorem w_Bk_29 : Cond.methodLink "NearMarks$Book" 29 y_St_hasBoth ∈ gtbl := g_at 390 (by decide +kernel) (by decide +kernel)
theorem w_Bk_35 : Cond.methodLink "NearMarks$Book" 35 y_St_between ∈ gtbl := g_at 395 (by decide +kernel) (by decide +kernel)
theorem w_Co_28 : Cond.methodLink "NearMarks$Columns" 28 y_Co_read ∈ gtbl := g_at 331 (by decide +kernel) (by decide +kernel)
theorem w_Co_32 : Cond.methodLink "NearMarks$Columns" 32 y_Co_isDead ∈ gtbl := g_at 335 (by decide +kernel) (by decide +kernel)
theorem w_Co_36 : Cond.methodLink "NearMarks$Columns" 36 y_Co_goTogether ∈ gtbl := g_at 343 (by decide +kernel) (by decide +kernel)
theorem w_Co_40 : Cond.methodLink "NearMarks$Columns" 40 y_Lg_bitCount ∈ gtbl := g_at 599 (by decide +kernel) (by decide +kernel)
theorem w_Dr_20 : Cond.methodLink "NearMarks$Draws" 20 y_Ma_max ∈ gtbl := g_at 520 (by decide +kernel) (by decide +kernel)
theorem w_Gr_22 : Cond.methodLink "NearMarks$Grouping" 22 y_Gr_findClose ∈ gtbl := g_at 565 (by decide +kernel) (by decide +kernel)
theorem w_Gr_33 : Cond.methodLink "NearMarks$Grouping" 33 y_Gr_spread ∈ gtbl := g_at 571 (by decide +kernel) (by decide +kernel)
theorem w_Gr_37 : Cond.methodLink "NearMarks$Grouping" 37 y_St_between ∈ gtbl := g_at 569 (by decide +kernel) (by decide +kernel)
theorem w_Im_9 : Cond.methodLink "NearMarks$Image" 9 y_St_init ∈ gtbl := g_at 126 (by decide +kernel) (by decide +kernel)
theorem w_Pt_27 : Cond.methodLink "NearMarks$Parts" 27 y_Ma_max ∈ gtbl := g_at 608 (by decide +kernel) (by decide +kernel)
theorem w_Pt_33 : Cond.methodLink "NearMarks$Parts" 33 y_Pt_turnOf ∈ gtbl := g_at 609 (by decide +kernel) (by decide +kernel)
theorem w_Pt_37 : Cond.methodLink "NearMarks$Parts" 37 y_Pt_beginAt ∈ gtbl := g_at 612 (by decide +kernel) (by decide +kernel)
theorem w_Pa_17 : Cond.methodLink "NearMarks$Past" 17 y_St_init ∈ gtbl := g_at 106 (by decide +kernel) (by decide +kernel)
theorem w_Pa_22 : Cond.methodLink "NearMarks$Past" 22 y_St_become ∈ gtbl := g_at 431 (by decide +kernel) (by decide +kernel)
theorem w_Pa_29 : Cond.methodLink "NearMarks$Past" 29 y_Ma_min ∈ gtbl := g_at 435 (by decide +kernel) (by decide +kernel)
theorem w_Pi_13 : Cond.methodLink "NearMarks$Picture" 13 y_Pi_withRow ∈ gtbl := g_at 524 (by decide +kernel) (by decide +kernel)
theorem w_Pi_23 : Cond.methodLink "NearMarks$Picture" 23 y_Pi_hasDot ∈ gtbl := g_at 454 (by decide +kernel) (by decide +kernel)
theorem w_Pi_27 : Cond.methodLink "NearMarks$Picture" 27 y_Pi_dotAt ∈ gtbl := g_at 458 (by decide +kernel) (by decide +kernel)
theorem w_Si_36 : Cond.methodLink "NearMarks$Sightings" 36 y_Si_fits ∈ gtbl := g_at 351 (by decide +kernel) (by decide +kernel)
theorem w_Si_40 : Cond.methodLink "NearMarks$Sightings" 40 y_Si_fitting ∈ gtbl := g_at 360 (by decide +kernel) (by decide +kernel)
theorem w_Si_48 : Cond.methodLink "NearMarks$Sightings" 48 y_Lg_bitCount ∈ gtbl := g_at 369 (by decide +kernel) (by decide +kernel)
theorem w_Si_53 : Cond.methodLink "NearMarks$Sightings" 53 y_Si_greatestLeft ∈ gtbl := g_at 370 (by decide +kernel) (by decide +kernel)
theorem w_Si_61 : Cond.methodLink "NearMarks$Sightings" 61 y_St_between ∈ gtbl := g_at 375 (by decide +kernel) (by decide +kernel)
theorem w_Si_65 : Cond.methodLink "NearMarks$Sightings" 65 y_Ma_max ∈ gtbl := g_at 379 (by decide +kernel) (by decide +kernel)
theorem w_St_32 : Cond.methodLink "NearMarks$State" 32 y_St_has ∈ gtbl := g_at 394 (by decide +kernel) (by decide +kernel)
theorem w_St_40 : Cond.methodLink "NearMarks$State" 40 y_St_countNearerThan ∈ gtbl := g_at 314 (by decide +kernel) (by decide +kernel)
theorem w_St_44 : Cond.methodLink "NearMarks$State" 44 y_St_fromHand ∈ gtbl := g_at 318 (by decide +kernel) (by decide +kernel)
theorem w_St_51 : Cond.methodLink "NearMarks$State" 51 y_St_between ∈ gtbl := g_at 589 (by decide +kernel) (by decide +kernel)
theorem w_St_55 : Cond.methodLink "NearMarks$State" 55 y_Ma_max ∈ gtbl := g_at 590 (by decide +kernel) (by decide +kernel)
theorem w_Lw_9 : Cond.methodLink "NearMarksLaw" 9 y_Nm_init ∈ gtbl := g_at 57 (by decide +kernel) (by decide +kernel)
theorem w_Lw_12 : Cond.methodLink "NearMarksLaw" 12 y_Mo_init ∈ gtbl := g_at 656 (by decide +kernel) (by decide +kernel)
theorem w_Lw_13 : Cond.methodLink "NearMarksLaw" 13 y_Nm_told ∈ gtbl := g_at 277 (by decide +kernel) (by decide +kernel)
theorem w_Lw_17 : Cond.methodLink "NearMarksLaw" 17 y_Mo_told ∈ gtbl := g_at 720 (by decide +kernel) (by decide +kernel)
theorem w_Lw_18 : Cond.methodLink "NearMarksLaw" 18 y_Nm_hand ∈ gtbl := g_at 397 (by decide +kernel) (by decide +kernel)
theorem w_Lw_22 : Cond.methodLink "NearMarksLaw" 22 y_Mo_hand ∈ gtbl := g_at 809 (by decide +kernel) (by decide +kernel)
theorem w_Lw_23 : Cond.methodLink "NearMarksLaw" 23 y_Nm_markAt ∈ gtbl := g_at 401 (by decide +kernel) (by decide +kernel)
theorem w_Lw_27 : Cond.methodLink "NearMarksLaw" 27 y_Mo_markAt ∈ gtbl := g_at 813 (by decide +kernel) (by decide +kernel)
theorem w_Lw_28 : Cond.methodLink "NearMarksLaw" 28 y_Nm_mark ∈ gtbl := g_at 405 (by decide +kernel) (by decide +kernel)
theorem w_Lw_32 : Cond.methodLink "NearMarksLaw" 32 y_Mo_mark ∈ gtbl := g_at 817 (by decide +kernel) (by decide +kernel)
theorem w_Lw_33 : Cond.methodLink "NearMarksLaw" 33 y_Nm_part ∈ gtbl := g_at 415 (by decide +kernel) (by decide +kernel)
theorem w_Lw_36 : Cond.methodLink "NearMarksLaw" 36 y_Mo_part ∈ gtbl := g_at 822 (by decide +kernel) (by decide +kernel)
theorem w_Lw_37 : Cond.methodLink "NearMarksLaw" 37 y_Nm_type ∈ gtbl := g_at 423 (by decide +kernel) (by decide +kernel)
theorem w_Lw_40 : Cond.methodLink "NearMarksLaw" 40 y_Mo_type ∈ gtbl := g_at 838 (by decide +kernel) (by decide +kernel)
theorem w_Lw_41 : Cond.methodLink "NearMarksLaw" 41 y_Nm_flip ∈ gtbl := g_at 443 (by decide +kernel) (by decide +kernel)
theorem w_Lw_44 : Cond.methodLink "NearMarksLaw" 44 y_Mo_flip ∈ gtbl := g_at 853 (by decide +kernel) (by decide +kernel)
theorem w_Lw_45 : Cond.methodLink "NearMarksLaw" 45 y_Nm_turn ∈ gtbl := g_at 447 (by decide +kernel) (by decide +kernel)
theorem w_Lw_49 : Cond.methodLink "NearMarksLaw" 49 y_Mo_turn ∈ gtbl := g_at 858 (by decide +kernel) (by decide +kernel)
theorem w_Lw_50 : Cond.methodLink "NearMarksLaw" 50 y_Nm_mirror ∈ gtbl := g_at 464 (by decide +kernel) (by decide +kernel)
theorem w_Lw_53 : Cond.methodLink "NearMarksLaw" 53 y_Mo_mirror ∈ gtbl := g_at 866 (by decide +kernel) (by decide +kernel)
theorem w_Lw_54 : Cond.methodLink "NearMarksLaw" 54 y_Nm_hold ∈ gtbl := g_at 471 (by decide +kernel) (by decide +kernel)
theorem w_Lw_57 : Cond.methodLink "NearMarksLaw" 57 y_Mo_hold ∈ gtbl := g_at 870 (by decide +kernel) (by decide +kernel)
theorem w_Lw_58 : Cond.methodLink "NearMarksLaw" 58 y_Nm_put ∈ gtbl := g_at 475 (by decide +kernel) (by decide +kernel)
theorem w_Lw_61 : Cond.methodLink "NearMarksLaw" 61 y_Mo_put ∈ gtbl := g_at 874 (by decide +kernel) (by decide +kernel)
theorem w_Lw_64 : Cond.methodLink "NearMarksLaw" 64 y_Nm_cut ∈ gtbl := g_at 488 (by decide +kernel) (by decide +kernel)
theorem w_Lw_68 : Cond.methodLink "NearMarksLaw" 68 y_Mo_cut ∈ gtbl := g_at 885 (by decide +kernel) (by decide +kernel)
theorem w_Lw_69 : Cond.methodLink "NearMarksLaw" 69 y_Nm_take ∈ gtbl := g_at 492 (by decide +kernel) (by decide +kernel)
theorem w_Lw_72 : Cond.methodLink "NearMarksLaw" 72 y_Mo_take ∈ gtbl := g_at 889 (by decide +kernel) (by decide +kernel)
theorem w_Lw_73 : Cond.methodLink "NearMarksLaw" 73 y_Nm_kind ∈ gtbl := g_at 500 (by decide +kernel) (by decide +kernel)
theorem w_Lw_76 : Cond.methodLink "NearMarksLaw" 76 y_Mo_kind ∈ gtbl := g_at 893 (by decide +kernel) (by decide +kernel)
theorem w_Lw_77 : Cond.methodLink "NearMarksLaw" 77 y_Nm_drift ∈ gtbl := g_at 504 (by decide +kernel) (by decide +kernel)
theorem w_Lw_80 : Cond.methodLink "NearMarksLaw" 80 y_Mo_drift ∈ gtbl := g_at 897 (by decide +kernel) (by decide +kernel)
theorem w_Lw_81 : Cond.methodLink "NearMarksLaw" 81 y_Nm_undo ∈ gtbl := g_at 529 (by decide +kernel) (by decide +kernel)
theorem w_Lw_84 : Cond.methodLink "NearMarksLaw" 84 y_Mo_undo ∈ gtbl := g_at 914 (by decide +kernel) (by decide +kernel)
theorem w_Lw_85 : Cond.methodLink "NearMarksLaw" 85 y_Nm_near ∈ gtbl := g_at 537 (by decide +kernel) (by decide +kernel)
theorem w_Lw_88 : Cond.methodLink "NearMarksLaw" 88 y_Mo_near ∈ gtbl := g_at 922 (by decide +kernel) (by decide +kernel)
theorem w_Lw_89 : Cond.methodLink "NearMarksLaw" 89 y_Nm_nearest ∈ gtbl := g_at 548 (by decide +kernel) (by decide +kernel)
theorem w_Lw_92 : Cond.methodLink "NearMarksLaw" 92 y_Mo_nearest ∈ gtbl := g_at 927 (by decide +kernel) (by decide +kernel)
theorem w_Lw_93 : Cond.methodLink "NearMarksLaw" 93 y_Nm_apart ∈ gtbl := g_at 552 (by decide +kernel) (by decide +kernel)
theorem w_Lw_96 : Cond.methodLink "NearMarksLaw" 96 y_Mo_apart ∈ gtbl := g_at 931 (by decide +kernel) (by decide +kernel)
theorem w_Lw_97 : Cond.methodLink "NearMarksLaw" 97 y_Nm_groups ∈ gtbl := g_at 557 (by decide +kernel) (by decide +kernel)
theorem w_Lw_100 : Cond.methodLink "NearMarksLaw" 100 y_Mo_groups ∈ gtbl := g_at 935 (by decide +kernel) (by decide +kernel)
theorem w_Lw_101 : Cond.methodLink "NearMarksLaw" 101 y_Nm_group ∈ gtbl := g_at 575 (by decide +kernel) (by decide +kernel)
theorem w_Lw_105 : Cond.methodLink "NearMarksLaw" 105 y_Mo_group ∈ gtbl := g_at 943 (by decide +kernel) (by decide +kernel)
theorem w_Lw_106 : Cond.methodLink "NearMarksLaw" 106 y_Nm_middle ∈ gtbl := g_at 591 (by decide +kernel) (by decide +kernel)
theorem w_Lw_110 : Cond.methodLink "NearMarksLaw" 110 y_Mo_middle ∈ gtbl := g_at 959 (by decide +kernel) (by decide +kernel)
theorem w_Lw_111 : Cond.methodLink "NearMarksLaw" 111 y_Nm_fewest ∈ gtbl := g_at 600 (by decide +kernel) (by decide +kernel)
theorem w_Lw_114 : Cond.methodLink "NearMarksLaw" 114 y_Mo_fewest ∈ gtbl := g_at 963 (by decide +kernel) (by decide +kernel)
theorem w_Lw_115 : Cond.methodLink "NearMarksLaw" 115 y_Nm_see ∈ gtbl := g_at 617 (by decide +kernel) (by decide +kernel)
theorem w_Lw_118 : Cond.methodLink "NearMarksLaw" 118 y_Mo_see ∈ gtbl := g_at 974 (by decide +kernel) (by decide +kernel)
theorem w_Lw_119 : Cond.methodLink "NearMarksLaw" 119 y_Nm_write ∈ gtbl := g_at 625 (by decide +kernel) (by decide +kernel)
theorem w_Lw_122 : Cond.methodLink "NearMarksLaw" 122 y_Mo_write ∈ gtbl := g_at 978 (by decide +kernel) (by decide +kernel)
theorem w_Lw_123 : Cond.methodLink "NearMarksLaw" 123 y_Nm_tear ∈ gtbl := g_at 633 (by decide +kernel) (by decide +kernel)
theorem w_Lw_126 : Cond.methodLink "NearMarksLaw" 126 y_Mo_tear ∈ gtbl := g_at 982 (by decide +kernel) (by decide +kernel)
theorem w_Lw_127 : Cond.methodLink "NearMarksLaw" 127 y_Nm_seed ∈ gtbl := g_at 637 (by decide +kernel) (by decide +kernel)
theorem w_Lw_130 : Cond.methodLink "NearMarksLaw" 130 y_Mo_seed ∈ gtbl := g_at 986 (by decide +kernel) (by decide +kernel)
theorem w_Lw_131 : Cond.methodLink "NearMarksLaw" 131 y_Nm_keep ∈ gtbl := g_at 641 (by decide +kernel) (by decide +kernel)
theorem w_Lw_134 : Cond.methodLink "NearMarksLaw" 134 y_Mo_keep ∈ gtbl := g_at 990 (by decide +kernel) (by decide +kernel)
theorem w_Lw_135 : Cond.methodLink "NearMarksLaw" 135 y_Nm_goBack ∈ gtbl := g_at 650 (by decide +kernel) (by decide +kernel)
theorem w_Lw_138 : Cond.methodLink "NearMarksLaw" 138 y_Mo_goBack ∈ gtbl := g_at 994 (by decide +kernel) (by decide +kernel)
theorem w_Mo_59 : Cond.methodLink "NearMarksModel" 59 y_Mo_marks ∈ gtbl := g_at 724 (by decide +kernel) (by decide +kernel)
theorem w_Mo_63 : Cond.methodLink "NearMarksModel" 63 y_Mo_in ∈ gtbl := g_at 805 (by decide +kernel) (by decide +kernel)
theorem w_Mo_67 : Cond.methodLink "NearMarksModel" 67 y_Mo_own ∈ gtbl := g_at 739 (by decide +kernel) (by decide +kernel)
theorem w_Mo_71 : Cond.methodLink "NearMarksModel" 71 y_Mo_ones ∈ gtbl := g_at 732 (by decide +kernel) (by decide +kernel)
theorem w_Mo_75 : Cond.methodLink "NearMarksModel" 75 y_Mo_has ∈ gtbl := g_at 750 (by decide +kernel) (by decide +kernel)
theorem w_Mo_79 : Cond.methodLink "NearMarksModel" 79 y_Mo_isLooked ∈ gtbl := g_at 747 (by decide +kernel) (by decide +kernel)
theorem w_Mo_82 : Cond.methodLink "NearMarksModel" 82 y_Mo_off ∈ gtbl := g_at 753 (by decide +kernel) (by decide +kernel)
theorem w_Mo_86 : Cond.methodLink "NearMarksModel" 86 y_Mo_parts ∈ gtbl := g_at 728 (by decide +kernel) (by decide +kernel)
theorem w_Mo_89 : Cond.methodLink "NearMarksModel" 89 y_Mo_ahead ∈ gtbl := g_at 765 (by decide +kernel) (by decide +kernel)
theorem w_Mo_92 : Cond.methodLink "NearMarksModel" 92 y_Mo_isDead ∈ gtbl := g_at 773 (by decide +kernel) (by decide +kernel)
theorem w_Mo_96 : Cond.methodLink "NearMarksModel" 96 y_Mo_areTogether ∈ gtbl := g_at 781 (by decide +kernel) (by decide +kernel)
theorem w_Mo_104 : Cond.methodLink "NearMarksModel" 104 y_Mo_couldBe ∈ gtbl := g_at 789 (by decide +kernel) (by decide +kernel)
theorem w_Mo_107 : Cond.methodLink "NearMarksModel" 107 y_Mo_could ∈ gtbl := g_at 785 (by decide +kernel) (by decide +kernel)
theorem w_Mo_114 : Cond.methodLink "NearMarksModel" 114 y_Mo_isMark ∈ gtbl := g_at 801 (by decide +kernel) (by decide +kernel)
theorem w_Mo_117 : Cond.methodLink "NearMarksModel" 117 y_Mo_nearestOf ∈ gtbl := g_at 761 (by decide +kernel) (by decide +kernel)
theorem w_Mo_120 : Cond.methodLink "NearMarksModel" 120 y_Mo_like ∈ gtbl := g_at 735 (by decide +kernel) (by decide +kernel)
theorem w_Mo_123 : Cond.methodLink "NearMarksModel" 123 y_Mo_looked ∈ gtbl := g_at 743 (by decide +kernel) (by decide +kernel)
theorem w_Mo_126 : Cond.methodLink "NearMarksModel" 126 y_Mo_first ∈ gtbl := g_at 757 (by decide +kernel) (by decide +kernel)
theorem w_Mo_129 : Cond.methodLink "NearMarksModel" 129 y_Mo_dead ∈ gtbl := g_at 769 (by decide +kernel) (by decide +kernel)
theorem w_Mo_132 : Cond.methodLink "NearMarksModel" 132 y_Mo_together ∈ gtbl := g_at 777 (by decide +kernel) (by decide +kernel)
theorem w_Mo_135 : Cond.methodLink "NearMarksModel" 135 y_Mo_asked ∈ gtbl := g_at 793 (by decide +kernel) (by decide +kernel)
theorem w_Mo_138 : Cond.methodLink "NearMarksModel" 138 y_Mo_wrong ∈ gtbl := g_at 797 (by decide +kernel) (by decide +kernel)
theorem w_Mo_146 : Cond.methodLink "NearMarksModel" 146 y_Mo_beginOf ∈ gtbl := g_at 826 (by decide +kernel) (by decide +kernel)
theorem w_Mo_149 : Cond.methodLink "NearMarksModel" 149 y_Mo_endOf ∈ gtbl := g_at 830 (by decide +kernel) (by decide +kernel)
theorem w_Mo_152 : Cond.methodLink "NearMarksModel" 152 y_Mo_have ∈ gtbl := g_at 834 (by decide +kernel) (by decide +kernel)
theorem w_Mo_155 : Cond.methodLink "NearMarksModel" 155 y_Mo_lay ∈ gtbl := g_at 848 (by decide +kernel) (by decide +kernel)
theorem w_Mo_163 : Cond.methodLink "NearMarksModel" 163 y_Mo_note ∈ gtbl := g_at 844 (by decide +kernel) (by decide +kernel)
theorem w_Mo_170 : Cond.methodLink "NearMarksModel" 170 y_Mo_row ∈ gtbl := g_at 862 (by decide +kernel) (by decide +kernel)
theorem w_Mo_177 : Cond.methodLink "NearMarksModel" 177 y_Mo_add ∈ gtbl := g_at 881 (by decide +kernel) (by decide +kernel)
theorem w_Mo_191 : Cond.methodLink "NearMarksModel" 191 y_Mo_draw ∈ gtbl := g_at 906 (by decide +kernel) (by decide +kernel)
theorem w_Mo_196 : Cond.methodLink "NearMarksModel" 196 y_Mo_lot ∈ gtbl := g_at 902 (by decide +kernel) (by decide +kernel)
theorem w_Mo_199 : Cond.methodLink "NearMarksModel" 199 y_Mo_become ∈ gtbl := g_at 918 (by decide +kernel) (by decide +kernel)
theorem w_Mo_204 : Cond.methodLink "NearMarksModel" 204 y_Mo_layGroups ∈ gtbl := g_at 939 (by decide +kernel) (by decide +kernel)
theorem w_Mo_207 : Cond.methodLink "NearMarksModel" 207 y_Mo_leastOf ∈ gtbl := g_at 947 (by decide +kernel) (by decide +kernel)
theorem w_Mo_210 : Cond.methodLink "NearMarksModel" 210 y_Mo_manyOf ∈ gtbl := g_at 951 (by decide +kernel) (by decide +kernel)
theorem w_Mo_213 : Cond.methodLink "NearMarksModel" 213 y_Mo_wide ∈ gtbl := g_at 955 (by decide +kernel) (by decide +kernel)
theorem w_Mo_216 : Cond.methodLink "NearMarksModel" 216 y_Mo_isMore ∈ gtbl := g_at 971 (by decide +kernel) (by decide +kernel)
theorem w_Mo_222 : Cond.methodLink "NearMarksModel" 222 y_Mo_cutBy ∈ gtbl := g_at 968 (by decide +kernel) (by decide +kernel)
theorem k_Nm_137 : Cond.constant "NearMarks" 137 (-1000000002) ∈ gtbl := g_at 396 (by decide +kernel) (by decide +kernel)
theorem k_Nm_146 : Cond.constant "NearMarks" 146 (-1000000001) ∈ gtbl := g_at 409 (by decide +kernel) (by decide +kernel)
theorem k_Nm_197 : Cond.constant "NearMarks" 197 (-1000000003) ∈ gtbl := g_at 482 (by decide +kernel) (by decide +kernel)
theorem k_Nm_198 : Cond.constant "NearMarks" 198 (-1000000004) ∈ gtbl := g_at 483 (by decide +kernel) (by decide +kernel)
theorem k_Dr_19 : Cond.constant "NearMarks$Draws" 19 65536 ∈ gtbl := g_at 519 (by decide +kernel) (by decide +kernel)
theorem k_Mo_144 : Cond.constant "NearMarksModel" 144 (-1000000002) ∈ gtbl := g_at 808 (by decide +kernel) (by decide +kernel)
theorem k_Mo_145 : Cond.constant "NearMarksModel" 145 (-1000000001) ∈ gtbl := g_at 821 (by decide +kernel) (by decide +kernel)
theorem k_Mo_175 : Cond.constant "NearMarksModel" 175 (-1000000003) ∈ gtbl := g_at 879 (by decide +kernel) (by decide +kernel)
theorem k_Mo_176 : Cond.constant "NearMarksModel" 176 (-1000000004) ∈ gtbl := g_at 880 (by decide +kernel) (by decide +kernel)
theorem k_Mo_190 : Cond.constant "NearMarksModel" 190 65536 ∈ gtbl := g_at 913 (by decide +kernel) (by decide +kernel)
theorem k_Dr_13 : Cond.constantLong "NearMarks$Draws" 13 1103515245 ∈ gtbl := g_at 516 (by decide +kernel) (by decide +kernel)
theorem k_Dr_15 : Cond.constantLong "NearMarks$Draws" 15 12345 ∈ gtbl := g_at 517 (by decide +kernel) (by decide +kernel)
theorem k_Dr_17 : Cond.constantLong "NearMarks$Draws" 17 2147483647 ∈ gtbl := g_at 518 (by decide +kernel) (by decide +kernel)
theorem k_Pi_9 : Cond.constantLong "NearMarks$Picture" 9 255 ∈ gtbl := g_at 441 (by decide +kernel) (by decide +kernel)
theorem k_Pi_11 : Cond.constantLong "NearMarks$Picture" 11 (-1) ∈ gtbl := g_at 442 (by decide +kernel) (by decide +kernel)
theorem k_St_9 : Cond.constantLong "NearMarks$State" 9 281479271743489 ∈ gtbl := g_at 69 (by decide +kernel) (by decide +kernel)
theorem k_Lw_62 : Cond.constantLong "NearMarksLaw" 62 4294967295 ∈ gtbl := g_at 998 (by decide +kernel) (by decide +kernel)
theorem k_Mo_57 : Cond.constantLong "NearMarksModel" 57 281479271743489 ∈ gtbl := g_at 660 (by decide +kernel) (by decide +kernel)
theorem k_Mo_159 : Cond.constantLong "NearMarksModel" 159 7 ∈ gtbl := g_at 842 (by decide +kernel) (by decide +kernel)
theorem k_Mo_161 : Cond.constantLong "NearMarksModel" 161 255 ∈ gtbl := g_at 843 (by decide +kernel) (by decide +kernel)
theorem k_Mo_166 : Cond.constantLong "NearMarksModel" 166 (-1) ∈ gtbl := g_at 852 (by decide +kernel) (by decide +kernel)
theorem k_Mo_168 : Cond.constantLong "NearMarksModel" 168 63 ∈ gtbl := g_at 857 (by decide +kernel) (by decide +kernel)
theorem k_Mo_173 : Cond.constantLong "NearMarksModel" 173 2 ∈ gtbl := g_at 878 (by decide +kernel) (by decide +kernel)
theorem k_Mo_184 : Cond.constantLong "NearMarksModel" 184 1103515245 ∈ gtbl := g_at 910 (by decide +kernel) (by decide +kernel)
theorem k_Mo_186 : Cond.constantLong "NearMarksModel" 186 12345 ∈ gtbl := g_at 911 (by decide +kernel) (by decide +kernel)
theorem k_Mo_188 : Cond.constantLong "NearMarksModel" 188 2147483648 ∈ gtbl := g_at 912 (by decide +kernel) (by decide +kernel)
theorem k_Mo_194 : Cond.constantLong "NearMarksModel" 194 20 ∈ gtbl := g_at 901 (by decide +kernel) (by decide +kernel)
theorem k_Mo_202 : Cond.constantLong "NearMarksModel" 202 64 ∈ gtbl := g_at 926 (by decide +kernel) (by decide +kernel)
theorem k_Mo_220 : Cond.constantLong "NearMarksModel" 220 8 ∈ gtbl := g_at 967 (by decide +kernel) (by decide +kernel)
theorem k_Lg_314 : Cond.constantLong "java/lang/Long" 314 6148914691236517205 ∈ gtbl := g_at 284 (by decide +kernel) (by decide +kernel)
theorem k_Lg_316 : Cond.constantLong "java/lang/Long" 316 3689348814741910323 ∈ gtbl := g_at 285 (by decide +kernel) (by decide +kernel)
theorem k_Lg_318 : Cond.constantLong "java/lang/Long" 318 1085102592571150095 ∈ gtbl := g_at 286 (by decide +kernel) (by decide +kernel)
theorem ok_Pt_beginAt : VOK y_Pt_beginAt c_Pt_beginAt 4 none 1 := ⟨g_at 158 (by decide +kernel) (by decide +kernel), g_at 159 (by decide +kernel) (by decide +kernel), g_at 45 (by decide +kernel) (by decide +kernel), wc_Pt_beginAt, ⟨by decide +kernel, by decide +kernel, by decide +kernel⟩⟩
theorem ok_Nm_hasBit : SOK y_Nm_hasBit c_Nm_hasBit 3 (some .boolean) 2 := ⟨g_at 162 (by decide +kernel) (by decide +kernel), g_at 41 (by decide +kernel) (by decide +kernel), wc_Nm_hasBit, ⟨by decide +kernel, by decide +kernel, by decide +kernel⟩⟩
theorem ok_Nm_told : VOK y_Nm_told c_Nm_told 2 (some .int) 1 := ⟨g_at 278 (by decide +kernel) (by decide +kernel), g_at 279 (by decide +kernel) (by decide +kernel), g_at 41 (by decide +kernel) (by decide +kernel), wc_Nm_told, ⟨by decide +kernel, by decide +kernel, by decide +kernel⟩⟩
theorem ok_Lg_bitCount : SOK y_Lg_bitCount c_Lg_bitCount 2 (some .int) 1 := ⟨g_at 282 (by decide +kernel) (by decide +kernel), g_at 52 (by decide +kernel) (by decide +kernel), wc_Lg_bitCount, ⟨by decide +kernel, by decide +kernel, by decide +kernel⟩⟩
theorem ok_St_numberOf : VOK y_St_numberOf c_St_numberOf 4 (some .int) 1 := ⟨g_at 288 (by decide +kernel) (by decide +kernel), g_at 289 (by decide +kernel) (by decide +kernel), g_at 42 (by decide +kernel) (by decide +kernel), wc_St_numberOf, ⟨by decide +kernel, by decide +kernel, by decide +kernel⟩⟩
theorem ok_Nm_countLookedAt : VOK y_Nm_countLookedAt c_Nm_countLookedAt 4 (some .int) 1 := ⟨g_at 293 (by decide +kernel) (by decide +kernel), g_at 0 (by decide +kernel) (by decide +kernel), g_at 41 (by decide +kernel) (by decide +kernel), wc_Nm_countLookedAt, ⟨by decide +kernel, by decide +kernel, by decide +kernel⟩⟩
theorem ok_St_fromHand : VOK y_St_fromHand c_St_fromHand 2 (some .int) 1 := ⟨g_at 296 (by decide +kernel) (by decide +kernel), g_at 297 (by decide +kernel) (by decide +kernel), g_at 42 (by decide +kernel) (by decide +kernel), wc_St_fromHand, ⟨by decide +kernel, by decide +kernel, by decide +kernel⟩⟩
theorem ok_Nm_distanceOf : SOK y_Nm_distanceOf c_Nm_distanceOf 4 (some .int) 2 := ⟨g_at 300 (by decide +kernel) (by decide +kernel), g_at 41 (by decide +kernel) (by decide +kernel), wc_Nm_distanceOf, ⟨by decide +kernel, by decide +kernel, by decide +kernel⟩⟩
theorem ok_Pt_anyAlike : VOK y_Pt_anyAlike c_Pt_anyAlike 4 (some .boolean) 1 := ⟨g_at 303 (by decide +kernel) (by decide +kernel), g_at 304 (by decide +kernel) (by decide +kernel), g_at 45 (by decide +kernel) (by decide +kernel), wc_Pt_anyAlike, ⟨by decide +kernel, by decide +kernel, by decide +kernel⟩⟩
theorem ok_Pt_reach : VOK y_Pt_reach c_Pt_reach 1 (some .int) 0 := ⟨g_at 307 (by decide +kernel) (by decide +kernel), g_at 308 (by decide +kernel) (by decide +kernel), g_at 45 (by decide +kernel) (by decide +kernel), wc_Pt_reach, ⟨by decide +kernel, by decide +kernel, by decide +kernel⟩⟩
theorem ok_St_byDistance : VOK y_St_byDistance c_St_byDistance 3 (some .int) 1 := ⟨g_at 311 (by decide +kernel) (by decide +kernel), g_at 312 (by decide +kernel) (by decide +kernel), g_at 42 (by decide +kernel) (by decide +kernel), wc_St_byDistance, ⟨by decide +kernel, by decide +kernel, by decide +kernel⟩⟩
theorem ok_St_countNearerThan : VOK y_St_countNearerThan c_St_countNearerThan 6 (some .int) 1 := ⟨g_at 315 (by decide +kernel) (by decide +kernel), g_at 316 (by decide +kernel) (by decide +kernel), g_at 42 (by decide +kernel) (by decide +kernel), wc_St_countNearerThan, ⟨by decide +kernel, by decide +kernel, by decide +kernel⟩⟩
theorem ok_Nm_leastDistance : VOK y_Nm_leastDistance c_Nm_leastDistance 2 (some .int) 0 := ⟨g_at 321 (by decide +kernel) (by decide +kernel), g_at 1 (by decide +kernel) (by decide +kernel), g_at 41 (by decide +kernel) (by decide +kernel), wc_Nm_leastDistance, ⟨by decide +kernel, by decide +kernel, by decide +kernel⟩⟩
theorem ok_St_has : VOK y_St_has c_St_has 2 (some .boolean) 1 := ⟨g_at 324 (by decide +kernel) (by decide +kernel), g_at 325 (by decide +kernel) (by decide +kernel), g_at 42 (by decide +kernel) (by decide +kernel), wc_St_has, ⟨by decide +kernel, by decide +kernel, by decide +kernel⟩⟩
theorem ok_Co_countDead : VOK y_Co_countDead c_Co_countDead 4 (some .int) 1 := ⟨g_at 328 (by decide +kernel) (by decide +kernel), g_at 329 (by decide +kernel) (by decide +kernel), g_at 47 (by decide +kernel) (by decide +kernel), wc_Co_countDead, ⟨by decide +kernel, by decide +kernel, by decide +kernel⟩⟩
theorem ok_Co_read : VOK y_Co_read c_Co_read 4 none 1 := ⟨g_at 332 (by decide +kernel) (by decide +kernel), g_at 333 (by decide +kernel) (by decide +kernel), g_at 47 (by decide +kernel) (by decide +kernel), wc_Co_read, ⟨by decide +kernel, by decide +kernel, by decide +kernel⟩⟩
theorem ok_Co_isDead : VOK y_Co_isDead c_Co_isDead 2 (some .boolean) 1 := ⟨g_at 336 (by decide +kernel) (by decide +kernel), g_at 337 (by decide +kernel) (by decide +kernel), g_at 47 (by decide +kernel) (by decide +kernel), wc_Co_isDead, ⟨by decide +kernel, by decide +kernel, by decide +kernel⟩⟩
theorem ok_Co_firstPair : VOK y_Co_firstPair c_Co_firstPair 4 (some .int) 1 := ⟨g_at 340 (by decide +kernel) (by decide +kernel), g_at 341 (by decide +kernel) (by decide +kernel), g_at 47 (by decide +kernel) (by decide +kernel), wc_Co_firstPair, ⟨by decide +kernel, by decide +kernel, by decide +kernel⟩⟩
theorem ok_Co_goTogether : VOK y_Co_goTogether c_Co_goTogether 3 (some .boolean) 2 := ⟨g_at 344 (by decide +kernel) (by decide +kernel), g_at 345 (by decide +kernel) (by decide +kernel), g_at 47 (by decide +kernel) (by decide +kernel), wc_Co_goTogether, ⟨by decide +kernel, by decide +kernel, by decide +kernel⟩⟩
theorem ok_Si_fitting : VOK y_Si_fitting c_Si_fitting 5 (some .long) 1 := ⟨g_at 348 (by decide +kernel) (by decide +kernel), g_at 349 (by decide +kernel) (by decide +kernel), g_at 48 (by decide +kernel) (by decide +kernel), wc_Si_fitting, ⟨by decide +kernel, by decide +kernel, by decide +kernel⟩⟩
theorem ok_Si_fits : VOK y_Si_fits c_Si_fits 4 (some .boolean) 1 := ⟨g_at 352 (by decide +kernel) (by decide +kernel), g_at 353 (by decide +kernel) (by decide +kernel), g_at 48 (by decide +kernel) (by decide +kernel), wc_Si_fits, ⟨by decide +kernel, by decide +kernel, by decide +kernel⟩⟩
theorem ok_Si_leastFitting : VOK y_Si_leastFitting c_Si_leastFitting 2 (some .int) 1 := ⟨g_at 357 (by decide +kernel) (by decide +kernel), g_at 358 (by decide +kernel) (by decide +kernel), g_at 48 (by decide +kernel) (by decide +kernel), wc_Si_leastFitting, ⟨by decide +kernel, by decide +kernel, by decide +kernel⟩⟩
theorem ok_Nm_leastOf : SOK y_Nm_leastOf c_Nm_leastOf 3 (some .int) 1 := ⟨g_at 362 (by decide +kernel) (by decide +kernel), g_at 41 (by decide +kernel) (by decide +kernel), wc_Nm_leastOf, ⟨by decide +kernel, by decide +kernel, by decide +kernel⟩⟩
theorem ok_Si_bestToAsk : VOK y_Si_bestToAsk c_Si_bestToAsk 8 (some .int) 1 := ⟨g_at 366 (by decide +kernel) (by decide +kernel), g_at 367 (by decide +kernel) (by decide +kernel), g_at 48 (by decide +kernel) (by decide +kernel), wc_Si_bestToAsk, ⟨by decide +kernel, by decide +kernel, by decide +kernel⟩⟩
theorem ok_Si_greatestLeft : VOK y_Si_greatestLeft c_Si_greatestLeft 8 (some .int) 3 := ⟨g_at 371 (by decide +kernel) (by decide +kernel), g_at 372 (by decide +kernel) (by decide +kernel), g_at 48 (by decide +kernel) (by decide +kernel), wc_Si_greatestLeft, ⟨by decide +kernel, by decide +kernel, by decide +kernel⟩⟩
theorem ok_St_between : VOK y_St_between c_St_between 3 (some .int) 2 := ⟨g_at 376 (by decide +kernel) (by decide +kernel), g_at 377 (by decide +kernel) (by decide +kernel), g_at 42 (by decide +kernel) (by decide +kernel), wc_St_between, ⟨by decide +kernel, by decide +kernel, by decide +kernel⟩⟩
theorem ok_Ma_max : SOK y_Ma_max c_Ma_max 2 (some .int) 2 := ⟨g_at 380 (by decide +kernel) (by decide +kernel), g_at 53 (by decide +kernel) (by decide +kernel), wc_Ma_max, ⟨by decide +kernel, by decide +kernel, by decide +kernel⟩⟩
theorem ok_Bk_firstWrong : VOK y_Bk_firstWrong c_Bk_firstWrong 3 (some .int) 1 := ⟨g_at 383 (by decide +kernel) (by decide +kernel), g_at 384 (by decide +kernel) (by decide +kernel), g_at 49 (by decide +kernel) (by decide +kernel), wc_Bk_firstWrong, ⟨by decide +kernel, by decide +kernel, by decide +kernel⟩⟩
theorem ok_Bk_isRight : VOK y_Bk_isRight c_Bk_isRight 3 (some .boolean) 2 := ⟨g_at 387 (by decide +kernel) (by decide +kernel), g_at 388 (by decide +kernel) (by decide +kernel), g_at 49 (by decide +kernel) (by decide +kernel), wc_Bk_isRight, ⟨by decide +kernel, by decide +kernel, by decide +kernel⟩⟩
theorem ok_St_hasBoth : VOK y_St_hasBoth c_St_hasBoth 3 (some .boolean) 2 := ⟨g_at 391 (by decide +kernel) (by decide +kernel), g_at 392 (by decide +kernel) (by decide +kernel), g_at 42 (by decide +kernel) (by decide +kernel), wc_St_hasBoth, ⟨by decide +kernel, by decide +kernel, by decide +kernel⟩⟩
theorem ok_Nm_hand : VOK y_Nm_hand c_Nm_hand 1 (some .long) 0 := ⟨g_at 398 (by decide +kernel) (by decide +kernel), g_at 399 (by decide +kernel) (by decide +kernel), g_at 41 (by decide +kernel) (by decide +kernel), wc_Nm_hand, ⟨by decide +kernel, by decide +kernel, by decide +kernel⟩⟩
theorem ok_Nm_markAt : VOK y_Nm_markAt c_Nm_markAt 2 (some .long) 1 := ⟨g_at 402 (by decide +kernel) (by decide +kernel), g_at 403 (by decide +kernel) (by decide +kernel), g_at 41 (by decide +kernel) (by decide +kernel), wc_Nm_markAt, ⟨by decide +kernel, by decide +kernel, by decide +kernel⟩⟩
theorem ok_Nm_mark : VOK y_Nm_mark c_Nm_mark 3 (some .int) 2 := ⟨g_at 406 (by decide +kernel) (by decide +kernel), g_at 407 (by decide +kernel) (by decide +kernel), g_at 41 (by decide +kernel) (by decide +kernel), wc_Nm_mark, ⟨by decide +kernel, by decide +kernel, by decide +kernel⟩⟩
theorem ok_Nm_countOthersWithin : VOK y_Nm_countOthersWithin c_Nm_countOthersWithin 5 (some .int) 2 := ⟨g_at 412 (by decide +kernel) (by decide +kernel), g_at 2 (by decide +kernel) (by decide +kernel), g_at 41 (by decide +kernel) (by decide +kernel), wc_Nm_countOthersWithin, ⟨by decide +kernel, by decide +kernel, by decide +kernel⟩⟩
theorem ok_Nm_part : VOK y_Nm_part c_Nm_part 3 (some .int) 2 := ⟨g_at 416 (by decide +kernel) (by decide +kernel), g_at 417 (by decide +kernel) (by decide +kernel), g_at 41 (by decide +kernel) (by decide +kernel), wc_Nm_part, ⟨by decide +kernel, by decide +kernel, by decide +kernel⟩⟩
theorem ok_Nm_countWithPart : VOK y_Nm_countWithPart c_Nm_countWithPart 5 (some .int) 1 := ⟨g_at 421 (by decide +kernel) (by decide +kernel), g_at 3 (by decide +kernel) (by decide +kernel), g_at 41 (by decide +kernel) (by decide +kernel), wc_Nm_countWithPart, ⟨by decide +kernel, by decide +kernel, by decide +kernel⟩⟩
theorem ok_Nm_type : VOK y_Nm_type c_Nm_type 3 (some .int) 2 := ⟨g_at 424 (by decide +kernel) (by decide +kernel), g_at 425 (by decide +kernel) (by decide +kernel), g_at 41 (by decide +kernel) (by decide +kernel), wc_Nm_type, ⟨by decide +kernel, by decide +kernel, by decide +kernel⟩⟩
theorem ok_Pa_remember : VOK y_Pa_remember c_Pa_remember 2 none 1 := ⟨g_at 428 (by decide +kernel) (by decide +kernel), g_at 429 (by decide +kernel) (by decide +kernel), g_at 43 (by decide +kernel) (by decide +kernel), wc_Pa_remember, ⟨by decide +kernel, by decide +kernel, by decide +kernel⟩⟩
theorem ok_St_become : VOK y_St_become c_St_become 3 none 1 := ⟨g_at 432 (by decide +kernel) (by decide +kernel), g_at 433 (by decide +kernel) (by decide +kernel), g_at 42 (by decide +kernel) (by decide +kernel), wc_St_become, ⟨by decide +kernel, by decide +kernel, by decide +kernel⟩⟩
theorem ok_Ma_min : SOK y_Ma_min c_Ma_min 2 (some .int) 2 := ⟨g_at 436 (by decide +kernel) (by decide +kernel), g_at 53 (by decide +kernel) (by decide +kernel), wc_Ma_min, ⟨by decide +kernel, by decide +kernel, by decide +kernel⟩⟩
theorem ok_Pi_withRow : SOK y_Pi_withRow c_Pi_withRow 5 (some .long) 3 := ⟨g_at 439 (by decide +kernel) (by decide +kernel), g_at 54 (by decide +kernel) (by decide +kernel), wc_Pi_withRow, ⟨by decide +kernel, by decide +kernel, by decide +kernel⟩⟩
theorem ok_Nm_flip : VOK y_Nm_flip c_Nm_flip 2 (some .int) 1 := ⟨g_at 444 (by decide +kernel) (by decide +kernel), g_at 445 (by decide +kernel) (by decide +kernel), g_at 41 (by decide +kernel) (by decide +kernel), wc_Nm_flip, ⟨by decide +kernel, by decide +kernel, by decide +kernel⟩⟩
theorem ok_Nm_turn : VOK y_Nm_turn c_Nm_turn 1 (some .int) 0 := ⟨g_at 448 (by decide +kernel) (by decide +kernel), g_at 449 (by decide +kernel) (by decide +kernel), g_at 41 (by decide +kernel) (by decide +kernel), wc_Nm_turn, ⟨by decide +kernel, by decide +kernel, by decide +kernel⟩⟩
theorem ok_Pi_turned : SOK y_Pi_turned c_Pi_turned 6 (some .long) 1 := ⟨g_at 452 (by decide +kernel) (by decide +kernel), g_at 54 (by decide +kernel) (by decide +kernel), wc_Pi_turned, ⟨by decide +kernel, by decide +kernel, by decide +kernel⟩⟩
theorem ok_Pi_hasDot : SOK y_Pi_hasDot c_Pi_hasDot 4 (some .boolean) 3 := ⟨g_at 455 (by decide +kernel) (by decide +kernel), g_at 54 (by decide +kernel) (by decide +kernel), wc_Pi_hasDot, ⟨by decide +kernel, by decide +kernel, by decide +kernel⟩⟩
theorem ok_Pi_dotAt : SOK y_Pi_dotAt c_Pi_dotAt 2 (some .long) 2 := ⟨g_at 459 (by decide +kernel) (by decide +kernel), g_at 54 (by decide +kernel) (by decide +kernel), wc_Pi_dotAt, ⟨by decide +kernel, by decide +kernel, by decide +kernel⟩⟩
theorem ok_Pi_firstRow : SOK y_Pi_firstRow c_Pi_firstRow 2 (some .int) 1 := ⟨g_at 462 (by decide +kernel) (by decide +kernel), g_at 54 (by decide +kernel) (by decide +kernel), wc_Pi_firstRow, ⟨by decide +kernel, by decide +kernel, by decide +kernel⟩⟩
theorem ok_Nm_mirror : VOK y_Nm_mirror c_Nm_mirror 1 (some .int) 0 := ⟨g_at 465 (by decide +kernel) (by decide +kernel), g_at 466 (by decide +kernel) (by decide +kernel), g_at 41 (by decide +kernel) (by decide +kernel), wc_Nm_mirror, ⟨by decide +kernel, by decide +kernel, by decide +kernel⟩⟩
theorem ok_Pi_mirrored : SOK y_Pi_mirrored c_Pi_mirrored 6 (some .long) 1 := ⟨g_at 469 (by decide +kernel) (by decide +kernel), g_at 54 (by decide +kernel) (by decide +kernel), wc_Pi_mirrored, ⟨by decide +kernel, by decide +kernel, by decide +kernel⟩⟩
theorem ok_Nm_hold : VOK y_Nm_hold c_Nm_hold 3 (some .int) 1 := ⟨g_at 472 (by decide +kernel) (by decide +kernel), g_at 473 (by decide +kernel) (by decide +kernel), g_at 41 (by decide +kernel) (by decide +kernel), wc_Nm_hold, ⟨by decide +kernel, by decide +kernel, by decide +kernel⟩⟩
theorem ok_Nm_put : VOK y_Nm_put c_Nm_put 2 (some .int) 1 := ⟨g_at 476 (by decide +kernel) (by decide +kernel), g_at 477 (by decide +kernel) (by decide +kernel), g_at 41 (by decide +kernel) (by decide +kernel), wc_Nm_put, ⟨by decide +kernel, by decide +kernel, by decide +kernel⟩⟩
theorem ok_Nm_isKind : SOK y_Nm_isKind c_Nm_isKind 1 (some .boolean) 1 := ⟨g_at 480 (by decide +kernel) (by decide +kernel), g_at 41 (by decide +kernel) (by decide +kernel), wc_Nm_isKind, ⟨by decide +kernel, by decide +kernel, by decide +kernel⟩⟩
theorem ok_St_addHand : VOK y_St_addHand c_St_addHand 2 none 1 := ⟨g_at 485 (by decide +kernel) (by decide +kernel), g_at 486 (by decide +kernel) (by decide +kernel), g_at 42 (by decide +kernel) (by decide +kernel), wc_St_addHand, ⟨by decide +kernel, by decide +kernel, by decide +kernel⟩⟩
theorem ok_Nm_cut : VOK y_Nm_cut c_Nm_cut 3 (some .int) 1 := ⟨g_at 489 (by decide +kernel) (by decide +kernel), g_at 490 (by decide +kernel) (by decide +kernel), g_at 41 (by decide +kernel) (by decide +kernel), wc_Nm_cut, ⟨by decide +kernel, by decide +kernel, by decide +kernel⟩⟩
theorem ok_Nm_take : VOK y_Nm_take c_Nm_take 2 (some .int) 1 := ⟨g_at 493 (by decide +kernel) (by decide +kernel), g_at 494 (by decide +kernel) (by decide +kernel), g_at 41 (by decide +kernel) (by decide +kernel), wc_Nm_take, ⟨by decide +kernel, by decide +kernel, by decide +kernel⟩⟩
theorem ok_St_remove : VOK y_St_remove c_St_remove 3 none 1 := ⟨g_at 497 (by decide +kernel) (by decide +kernel), g_at 498 (by decide +kernel) (by decide +kernel), g_at 42 (by decide +kernel) (by decide +kernel), wc_St_remove, ⟨by decide +kernel, by decide +kernel, by decide +kernel⟩⟩
theorem ok_Nm_kind : VOK y_Nm_kind c_Nm_kind 4 (some .int) 2 := ⟨g_at 501 (by decide +kernel) (by decide +kernel), g_at 502 (by decide +kernel) (by decide +kernel), g_at 41 (by decide +kernel) (by decide +kernel), wc_Nm_kind, ⟨by decide +kernel, by decide +kernel, by decide +kernel⟩⟩
theorem ok_Nm_drift : VOK y_Nm_drift c_Nm_drift 3 (some .int) 1 := ⟨g_at 505 (by decide +kernel) (by decide +kernel), g_at 506 (by decide +kernel) (by decide +kernel), g_at 41 (by decide +kernel) (by decide +kernel), wc_Nm_drift, ⟨by decide +kernel, by decide +kernel, by decide +kernel⟩⟩
theorem ok_Nm_changeHandByDraws : VOK y_Nm_changeHandByDraws c_Nm_changeHandByDraws 2 none 0 := ⟨g_at 510 (by decide +kernel) (by decide +kernel), g_at 4 (by decide +kernel) (by decide +kernel), g_at 41 (by decide +kernel) (by decide +kernel), wc_Nm_changeHandByDraws, ⟨by decide +kernel, by decide +kernel, by decide +kernel⟩⟩
theorem ok_Dr_next : VOK y_Dr_next c_Dr_next 2 (some .int) 1 := ⟨g_at 513 (by decide +kernel) (by decide +kernel), g_at 514 (by decide +kernel) (by decide +kernel), g_at 50 (by decide +kernel) (by decide +kernel), wc_Dr_next, ⟨by decide +kernel, by decide +kernel, by decide +kernel⟩⟩
theorem ok_Pi_ofEqualRows : SOK y_Pi_ofEqualRows c_Pi_ofEqualRows 4 (some .long) 1 := ⟨g_at 522 (by decide +kernel) (by decide +kernel), g_at 54 (by decide +kernel) (by decide +kernel), wc_Pi_ofEqualRows, ⟨by decide +kernel, by decide +kernel, by decide +kernel⟩⟩
theorem ok_Nm_putIfUnlikeAll : VOK y_Nm_putIfUnlikeAll c_Nm_putIfUnlikeAll 1 none 0 := ⟨g_at 527 (by decide +kernel) (by decide +kernel), g_at 5 (by decide +kernel) (by decide +kernel), g_at 41 (by decide +kernel) (by decide +kernel), wc_Nm_putIfUnlikeAll, ⟨by decide +kernel, by decide +kernel, by decide +kernel⟩⟩
theorem ok_Nm_undo : VOK y_Nm_undo c_Nm_undo 2 (some .int) 1 := ⟨g_at 530 (by decide +kernel) (by decide +kernel), g_at 531 (by decide +kernel) (by decide +kernel), g_at 41 (by decide +kernel) (by decide +kernel), wc_Nm_undo, ⟨by decide +kernel, by decide +kernel, by decide +kernel⟩⟩
theorem ok_Pa_bringBack : VOK y_Pa_bringBack c_Pa_bringBack 3 none 2 := ⟨g_at 534 (by decide +kernel) (by decide +kernel), g_at 535 (by decide +kernel) (by decide +kernel), g_at 43 (by decide +kernel) (by decide +kernel), wc_Pa_bringBack, ⟨by decide +kernel, by decide +kernel, by decide +kernel⟩⟩
theorem ok_Nm_near : VOK y_Nm_near c_Nm_near 5 (some .long) 1 := ⟨g_at 538 (by decide +kernel) (by decide +kernel), g_at 539 (by decide +kernel) (by decide +kernel), g_at 41 (by decide +kernel) (by decide +kernel), wc_Nm_near, ⟨by decide +kernel, by decide +kernel, by decide +kernel⟩⟩
theorem ok_Nm_isDistance : SOK y_Nm_isDistance c_Nm_isDistance 1 (some .boolean) 1 := ⟨g_at 542 (by decide +kernel) (by decide +kernel), g_at 41 (by decide +kernel) (by decide +kernel), wc_Nm_isDistance, ⟨by decide +kernel, by decide +kernel, by decide +kernel⟩⟩
theorem ok_Nm_isNear : VOK y_Nm_isNear c_Nm_isNear 4 (some .boolean) 2 := ⟨g_at 546 (by decide +kernel) (by decide +kernel), g_at 6 (by decide +kernel) (by decide +kernel), g_at 41 (by decide +kernel) (by decide +kernel), wc_Nm_isNear, ⟨by decide +kernel, by decide +kernel, by decide +kernel⟩⟩
theorem ok_Nm_nearest : VOK y_Nm_nearest c_Nm_nearest 2 (some .int) 1 := ⟨g_at 549 (by decide +kernel) (by decide +kernel), g_at 550 (by decide +kernel) (by decide +kernel), g_at 41 (by decide +kernel) (by decide +kernel), wc_Nm_nearest, ⟨by decide +kernel, by decide +kernel, by decide +kernel⟩⟩
theorem ok_Nm_apart : VOK y_Nm_apart c_Nm_apart 3 (some .int) 2 := ⟨g_at 553 (by decide +kernel) (by decide +kernel), g_at 554 (by decide +kernel) (by decide +kernel), g_at 41 (by decide +kernel) (by decide +kernel), wc_Nm_apart, ⟨by decide +kernel, by decide +kernel, by decide +kernel⟩⟩
theorem ok_Nm_groups : VOK y_Nm_groups c_Nm_groups 2 (some .int) 1 := ⟨g_at 558 (by decide +kernel) (by decide +kernel), g_at 559 (by decide +kernel) (by decide +kernel), g_at 41 (by decide +kernel) (by decide +kernel), wc_Nm_groups, ⟨by decide +kernel, by decide +kernel, by decide +kernel⟩⟩
theorem ok_Gr_join : VOK y_Gr_join c_Gr_join 6 none 2 := ⟨g_at 562 (by decide +kernel) (by decide +kernel), g_at 563 (by decide +kernel) (by decide +kernel), g_at 46 (by decide +kernel) (by decide +kernel), wc_Gr_join, ⟨by decide +kernel, by decide +kernel, by decide +kernel⟩⟩
theorem ok_Gr_findClose : VOK y_Gr_findClose c_Gr_findClose 5 none 2 := ⟨g_at 566 (by decide +kernel) (by decide +kernel), g_at 567 (by decide +kernel) (by decide +kernel), g_at 46 (by decide +kernel) (by decide +kernel), wc_Gr_findClose, ⟨by decide +kernel, by decide +kernel, by decide +kernel⟩⟩
theorem ok_Gr_spread : VOK y_Gr_spread c_Gr_spread 9 (some .long) 2 := ⟨g_at 572 (by decide +kernel) (by decide +kernel), g_at 573 (by decide +kernel) (by decide +kernel), g_at 46 (by decide +kernel) (by decide +kernel), wc_Gr_spread, ⟨by decide +kernel, by decide +kernel, by decide +kernel⟩⟩
theorem ok_Nm_group : VOK y_Nm_group c_Nm_group 4 (some .int) 3 := ⟨g_at 576 (by decide +kernel) (by decide +kernel), g_at 577 (by decide +kernel) (by decide +kernel), g_at 41 (by decide +kernel) (by decide +kernel), wc_Nm_group, ⟨by decide +kernel, by decide +kernel, by decide +kernel⟩⟩
theorem ok_Gr_has : VOK y_Gr_has c_Gr_has 2 (some .boolean) 1 := ⟨g_at 580 (by decide +kernel) (by decide +kernel), g_at 581 (by decide +kernel) (by decide +kernel), g_at 46 (by decide +kernel) (by decide +kernel), wc_Gr_has, ⟨by decide +kernel, by decide +kernel, by decide +kernel⟩⟩
theorem ok_St_widthOf : VOK y_St_widthOf c_St_widthOf 6 (some .int) 1 := ⟨g_at 585 (by decide +kernel) (by decide +kernel), g_at 586 (by decide +kernel) (by decide +kernel), g_at 42 (by decide +kernel) (by decide +kernel), wc_St_widthOf, ⟨by decide +kernel, by decide +kernel, by decide +kernel⟩⟩
theorem ok_Nm_middle : VOK y_Nm_middle c_Nm_middle 3 (some .long) 2 := ⟨g_at 592 (by decide +kernel) (by decide +kernel), g_at 593 (by decide +kernel) (by decide +kernel), g_at 41 (by decide +kernel) (by decide +kernel), wc_Nm_middle, ⟨by decide +kernel, by decide +kernel, by decide +kernel⟩⟩
theorem ok_Co_mostOf : VOK y_Co_mostOf c_Co_mostOf 8 (some .long) 2 := ⟨g_at 596 (by decide +kernel) (by decide +kernel), g_at 597 (by decide +kernel) (by decide +kernel), g_at 47 (by decide +kernel) (by decide +kernel), wc_Co_mostOf, ⟨by decide +kernel, by decide +kernel, by decide +kernel⟩⟩
theorem ok_Nm_fewest : VOK y_Nm_fewest c_Nm_fewest 7 (some .int) 2 := ⟨g_at 601 (by decide +kernel) (by decide +kernel), g_at 602 (by decide +kernel) (by decide +kernel), g_at 41 (by decide +kernel) (by decide +kernel), wc_Nm_fewest, ⟨by decide +kernel, by decide +kernel, by decide +kernel⟩⟩
theorem ok_Pt_beginEvenly : VOK y_Pt_beginEvenly c_Pt_beginEvenly 9 none 2 := ⟨g_at 605 (by decide +kernel) (by decide +kernel), g_at 606 (by decide +kernel) (by decide +kernel), g_at 45 (by decide +kernel) (by decide +kernel), wc_Pt_beginEvenly, ⟨by decide +kernel, by decide +kernel, by decide +kernel⟩⟩
theorem ok_Pt_turnOf : SOK y_Pt_turnOf c_Pt_turnOf 3 (some .int) 3 := ⟨g_at 610 (by decide +kernel) (by decide +kernel), g_at 45 (by decide +kernel) (by decide +kernel), wc_Pt_turnOf, ⟨by decide +kernel, by decide +kernel, by decide +kernel⟩⟩
theorem ok_Nm_countAllLooks : VOK y_Nm_countAllLooks c_Nm_countAllLooks 5 (some .int) 1 := ⟨g_at 615 (by decide +kernel) (by decide +kernel), g_at 7 (by decide +kernel) (by decide +kernel), g_at 41 (by decide +kernel) (by decide +kernel), wc_Nm_countAllLooks, ⟨by decide +kernel, by decide +kernel, by decide +kernel⟩⟩
theorem ok_Nm_see : VOK y_Nm_see c_Nm_see 2 (some .int) 1 := ⟨g_at 618 (by decide +kernel) (by decide +kernel), g_at 619 (by decide +kernel) (by decide +kernel), g_at 41 (by decide +kernel) (by decide +kernel), wc_Nm_see, ⟨by decide +kernel, by decide +kernel, by decide +kernel⟩⟩
theorem ok_Si_add : VOK y_Si_add c_Si_add 4 none 2 := ⟨g_at 622 (by decide +kernel) (by decide +kernel), g_at 623 (by decide +kernel) (by decide +kernel), g_at 48 (by decide +kernel) (by decide +kernel), wc_Si_add, ⟨by decide +kernel, by decide +kernel, by decide +kernel⟩⟩
theorem ok_Nm_write : VOK y_Nm_write c_Nm_write 4 (some .int) 3 := ⟨g_at 626 (by decide +kernel) (by decide +kernel), g_at 627 (by decide +kernel) (by decide +kernel), g_at 41 (by decide +kernel) (by decide +kernel), wc_Nm_write, ⟨by decide +kernel, by decide +kernel, by decide +kernel⟩⟩
theorem ok_Bk_add : VOK y_Bk_add c_Bk_add 4 none 3 := ⟨g_at 630 (by decide +kernel) (by decide +kernel), g_at 631 (by decide +kernel) (by decide +kernel), g_at 49 (by decide +kernel) (by decide +kernel), wc_Bk_add, ⟨by decide +kernel, by decide +kernel, by decide +kernel⟩⟩
theorem ok_Nm_tear : VOK y_Nm_tear c_Nm_tear 2 (some .int) 0 := ⟨g_at 634 (by decide +kernel) (by decide +kernel), g_at 635 (by decide +kernel) (by decide +kernel), g_at 41 (by decide +kernel) (by decide +kernel), wc_Nm_tear, ⟨by decide +kernel, by decide +kernel, by decide +kernel⟩⟩
theorem ok_Nm_seed : VOK y_Nm_seed c_Nm_seed 3 (some .int) 1 := ⟨g_at 638 (by decide +kernel) (by decide +kernel), g_at 639 (by decide +kernel) (by decide +kernel), g_at 41 (by decide +kernel) (by decide +kernel), wc_Nm_seed, ⟨by decide +kernel, by decide +kernel, by decide +kernel⟩⟩
theorem ok_Nm_keep : VOK y_Nm_keep c_Nm_keep 2 (some .int) 1 := ⟨g_at 642 (by decide +kernel) (by decide +kernel), g_at 643 (by decide +kernel) (by decide +kernel), g_at 41 (by decide +kernel) (by decide +kernel), wc_Nm_keep, ⟨by decide +kernel, by decide +kernel, by decide +kernel⟩⟩
theorem ok_Pa_forget : VOK y_Pa_forget c_Pa_forget 1 none 0 := ⟨g_at 647 (by decide +kernel) (by decide +kernel), g_at 648 (by decide +kernel) (by decide +kernel), g_at 43 (by decide +kernel) (by decide +kernel), wc_Pa_forget, ⟨by decide +kernel, by decide +kernel, by decide +kernel⟩⟩
theorem ok_Nm_goBack : VOK y_Nm_goBack c_Nm_goBack 2 (some .int) 1 := ⟨g_at 651 (by decide +kernel) (by decide +kernel), g_at 652 (by decide +kernel) (by decide +kernel), g_at 41 (by decide +kernel) (by decide +kernel), wc_Nm_goBack, ⟨by decide +kernel, by decide +kernel, by decide +kernel⟩⟩
theorem ok_Mo_told : VOK y_Mo_told c_Mo_told 2 (some .int) 1 := ⟨g_at 721 (by decide +kernel) (by decide +kernel), g_at 722 (by decide +kernel) (by decide +kernel), g_at 51 (by decide +kernel) (by decide +kernel), wc_Mo_told, ⟨by decide +kernel, by decide +kernel, by decide +kernel⟩⟩
theorem ok_Mo_marks : VOK y_Mo_marks c_Mo_marks 1 (some .int) 0 := ⟨g_at 726 (by decide +kernel) (by decide +kernel), g_at 8 (by decide +kernel) (by decide +kernel), g_at 51 (by decide +kernel) (by decide +kernel), wc_Mo_marks, ⟨by decide +kernel, by decide +kernel, by decide +kernel⟩⟩
theorem ok_Mo_parts : VOK y_Mo_parts c_Mo_parts 1 (some .int) 0 := ⟨g_at 730 (by decide +kernel) (by decide +kernel), g_at 9 (by decide +kernel) (by decide +kernel), g_at 51 (by decide +kernel) (by decide +kernel), wc_Mo_parts, ⟨by decide +kernel, by decide +kernel, by decide +kernel⟩⟩
theorem ok_Mo_ones : SOK y_Mo_ones c_Mo_ones 4 (some .int) 1 := ⟨g_at 733 (by decide +kernel) (by decide +kernel), g_at 51 (by decide +kernel) (by decide +kernel), wc_Mo_ones, ⟨by decide +kernel, by decide +kernel, by decide +kernel⟩⟩
theorem ok_Mo_like : VOK y_Mo_like c_Mo_like 5 (some .int) 1 := ⟨g_at 737 (by decide +kernel) (by decide +kernel), g_at 10 (by decide +kernel) (by decide +kernel), g_at 51 (by decide +kernel) (by decide +kernel), wc_Mo_like, ⟨by decide +kernel, by decide +kernel, by decide +kernel⟩⟩
theorem ok_Mo_own : VOK y_Mo_own c_Mo_own 2 (some .long) 1 := ⟨g_at 741 (by decide +kernel) (by decide +kernel), g_at 11 (by decide +kernel) (by decide +kernel), g_at 51 (by decide +kernel) (by decide +kernel), wc_Mo_own, ⟨by decide +kernel, by decide +kernel, by decide +kernel⟩⟩
theorem ok_Mo_looked : VOK y_Mo_looked c_Mo_looked 5 (some .int) 1 := ⟨g_at 745 (by decide +kernel) (by decide +kernel), g_at 12 (by decide +kernel) (by decide +kernel), g_at 51 (by decide +kernel) (by decide +kernel), wc_Mo_looked, ⟨by decide +kernel, by decide +kernel, by decide +kernel⟩⟩
theorem ok_Mo_isLooked : SOK y_Mo_isLooked c_Mo_isLooked 11 (some .boolean) 3 := ⟨g_at 748 (by decide +kernel) (by decide +kernel), g_at 51 (by decide +kernel) (by decide +kernel), wc_Mo_isLooked, ⟨by decide +kernel, by decide +kernel, by decide +kernel⟩⟩
theorem ok_Mo_has : SOK y_Mo_has c_Mo_has 3 (some .boolean) 2 := ⟨g_at 751 (by decide +kernel) (by decide +kernel), g_at 51 (by decide +kernel) (by decide +kernel), wc_Mo_has, ⟨by decide +kernel, by decide +kernel, by decide +kernel⟩⟩
theorem ok_Mo_off : VOK y_Mo_off c_Mo_off 2 (some .int) 1 := ⟨g_at 755 (by decide +kernel) (by decide +kernel), g_at 13 (by decide +kernel) (by decide +kernel), g_at 51 (by decide +kernel) (by decide +kernel), wc_Mo_off, ⟨by decide +kernel, by decide +kernel, by decide +kernel⟩⟩
theorem ok_Mo_first : VOK y_Mo_first c_Mo_first 3 (some .int) 1 := ⟨g_at 759 (by decide +kernel) (by decide +kernel), g_at 14 (by decide +kernel) (by decide +kernel), g_at 51 (by decide +kernel) (by decide +kernel), wc_Mo_first, ⟨by decide +kernel, by decide +kernel, by decide +kernel⟩⟩
theorem ok_Mo_nearestOf : VOK y_Mo_nearestOf c_Mo_nearestOf 4 (some .int) 1 := ⟨g_at 763 (by decide +kernel) (by decide +kernel), g_at 15 (by decide +kernel) (by decide +kernel), g_at 51 (by decide +kernel) (by decide +kernel), wc_Mo_nearestOf, ⟨by decide +kernel, by decide +kernel, by decide +kernel⟩⟩
theorem ok_Mo_ahead : VOK y_Mo_ahead c_Mo_ahead 4 (some .int) 1 := ⟨g_at 767 (by decide +kernel) (by decide +kernel), g_at 16 (by decide +kernel) (by decide +kernel), g_at 51 (by decide +kernel) (by decide +kernel), wc_Mo_ahead, ⟨by decide +kernel, by decide +kernel, by decide +kernel⟩⟩
theorem ok_Mo_dead : VOK y_Mo_dead c_Mo_dead 3 (some .int) 0 := ⟨g_at 771 (by decide +kernel) (by decide +kernel), g_at 17 (by decide +kernel) (by decide +kernel), g_at 51 (by decide +kernel) (by decide +kernel), wc_Mo_dead, ⟨by decide +kernel, by decide +kernel, by decide +kernel⟩⟩
theorem ok_Mo_isDead : VOK y_Mo_isDead c_Mo_isDead 4 (some .boolean) 1 := ⟨g_at 775 (by decide +kernel) (by decide +kernel), g_at 18 (by decide +kernel) (by decide +kernel), g_at 51 (by decide +kernel) (by decide +kernel), wc_Mo_isDead, ⟨by decide +kernel, by decide +kernel, by decide +kernel⟩⟩
theorem ok_Mo_together : VOK y_Mo_together c_Mo_together 3 (some .int) 0 := ⟨g_at 779 (by decide +kernel) (by decide +kernel), g_at 19 (by decide +kernel) (by decide +kernel), g_at 51 (by decide +kernel) (by decide +kernel), wc_Mo_together, ⟨by decide +kernel, by decide +kernel, by decide +kernel⟩⟩
theorem ok_Mo_areTogether : VOK y_Mo_areTogether c_Mo_areTogether 7 (some .boolean) 2 := ⟨g_at 783 (by decide +kernel) (by decide +kernel), g_at 20 (by decide +kernel) (by decide +kernel), g_at 51 (by decide +kernel) (by decide +kernel), wc_Mo_areTogether, ⟨by decide +kernel, by decide +kernel, by decide +kernel⟩⟩
theorem ok_Mo_could : VOK y_Mo_could c_Mo_could 5 (some .int) 1 := ⟨g_at 787 (by decide +kernel) (by decide +kernel), g_at 21 (by decide +kernel) (by decide +kernel), g_at 51 (by decide +kernel) (by decide +kernel), wc_Mo_could, ⟨by decide +kernel, by decide +kernel, by decide +kernel⟩⟩
theorem ok_Mo_couldBe : VOK y_Mo_couldBe c_Mo_couldBe 4 (some .boolean) 1 := ⟨g_at 791 (by decide +kernel) (by decide +kernel), g_at 22 (by decide +kernel) (by decide +kernel), g_at 51 (by decide +kernel) (by decide +kernel), wc_Mo_couldBe, ⟨by decide +kernel, by decide +kernel, by decide +kernel⟩⟩
theorem ok_Mo_asked : VOK y_Mo_asked c_Mo_asked 7 (some .int) 0 := ⟨g_at 795 (by decide +kernel) (by decide +kernel), g_at 23 (by decide +kernel) (by decide +kernel), g_at 51 (by decide +kernel) (by decide +kernel), wc_Mo_asked, ⟨by decide +kernel, by decide +kernel, by decide +kernel⟩⟩
theorem ok_Mo_wrong : VOK y_Mo_wrong c_Mo_wrong 3 (some .int) 0 := ⟨g_at 799 (by decide +kernel) (by decide +kernel), g_at 24 (by decide +kernel) (by decide +kernel), g_at 51 (by decide +kernel) (by decide +kernel), wc_Mo_wrong, ⟨by decide +kernel, by decide +kernel, by decide +kernel⟩⟩
theorem ok_Mo_isMark : VOK y_Mo_isMark c_Mo_isMark 2 (some .boolean) 1 := ⟨g_at 803 (by decide +kernel) (by decide +kernel), g_at 25 (by decide +kernel) (by decide +kernel), g_at 51 (by decide +kernel) (by decide +kernel), wc_Mo_isMark, ⟨by decide +kernel, by decide +kernel, by decide +kernel⟩⟩
theorem ok_Mo_in : SOK y_Mo_in c_Mo_in 6 (some .boolean) 3 := ⟨g_at 806 (by decide +kernel) (by decide +kernel), g_at 51 (by decide +kernel) (by decide +kernel), wc_Mo_in, ⟨by decide +kernel, by decide +kernel, by decide +kernel⟩⟩
theorem ok_Mo_hand : VOK y_Mo_hand c_Mo_hand 1 (some .long) 0 := ⟨g_at 810 (by decide +kernel) (by decide +kernel), g_at 811 (by decide +kernel) (by decide +kernel), g_at 51 (by decide +kernel) (by decide +kernel), wc_Mo_hand, ⟨by decide +kernel, by decide +kernel, by decide +kernel⟩⟩
theorem ok_Mo_markAt : VOK y_Mo_markAt c_Mo_markAt 2 (some .long) 1 := ⟨g_at 814 (by decide +kernel) (by decide +kernel), g_at 815 (by decide +kernel) (by decide +kernel), g_at 51 (by decide +kernel) (by decide +kernel), wc_Mo_markAt, ⟨by decide +kernel, by decide +kernel, by decide +kernel⟩⟩
theorem ok_Mo_mark : VOK y_Mo_mark c_Mo_mark 5 (some .int) 2 := ⟨g_at 818 (by decide +kernel) (by decide +kernel), g_at 819 (by decide +kernel) (by decide +kernel), g_at 51 (by decide +kernel) (by decide +kernel), wc_Mo_mark, ⟨by decide +kernel, by decide +kernel, by decide +kernel⟩⟩
theorem ok_Mo_part : VOK y_Mo_part c_Mo_part 3 (some .int) 2 := ⟨g_at 823 (by decide +kernel) (by decide +kernel), g_at 824 (by decide +kernel) (by decide +kernel), g_at 51 (by decide +kernel) (by decide +kernel), wc_Mo_part, ⟨by decide +kernel, by decide +kernel, by decide +kernel⟩⟩
theorem ok_Mo_beginOf : VOK y_Mo_beginOf c_Mo_beginOf 4 (some .int) 1 := ⟨g_at 828 (by decide +kernel) (by decide +kernel), g_at 26 (by decide +kernel) (by decide +kernel), g_at 51 (by decide +kernel) (by decide +kernel), wc_Mo_beginOf, ⟨by decide +kernel, by decide +kernel, by decide +kernel⟩⟩
theorem ok_Mo_endOf : VOK y_Mo_endOf c_Mo_endOf 2 (some .int) 1 := ⟨g_at 832 (by decide +kernel) (by decide +kernel), g_at 27 (by decide +kernel) (by decide +kernel), g_at 51 (by decide +kernel) (by decide +kernel), wc_Mo_endOf, ⟨by decide +kernel, by decide +kernel, by decide +kernel⟩⟩
theorem ok_Mo_have : VOK y_Mo_have c_Mo_have 6 (some .int) 1 := ⟨g_at 836 (by decide +kernel) (by decide +kernel), g_at 28 (by decide +kernel) (by decide +kernel), g_at 51 (by decide +kernel) (by decide +kernel), wc_Mo_have, ⟨by decide +kernel, by decide +kernel, by decide +kernel⟩⟩
theorem ok_Mo_type : VOK y_Mo_type c_Mo_type 3 (some .int) 2 := ⟨g_at 839 (by decide +kernel) (by decide +kernel), g_at 840 (by decide +kernel) (by decide +kernel), g_at 51 (by decide +kernel) (by decide +kernel), wc_Mo_type, ⟨by decide +kernel, by decide +kernel, by decide +kernel⟩⟩
theorem ok_Mo_note : VOK y_Mo_note c_Mo_note 2 none 0 := ⟨g_at 846 (by decide +kernel) (by decide +kernel), g_at 29 (by decide +kernel) (by decide +kernel), g_at 51 (by decide +kernel) (by decide +kernel), wc_Mo_note, ⟨by decide +kernel, by decide +kernel, by decide +kernel⟩⟩
theorem ok_Mo_lay : VOK y_Mo_lay c_Mo_lay 5 none 3 := ⟨g_at 850 (by decide +kernel) (by decide +kernel), g_at 30 (by decide +kernel) (by decide +kernel), g_at 51 (by decide +kernel) (by decide +kernel), wc_Mo_lay, ⟨by decide +kernel, by decide +kernel, by decide +kernel⟩⟩
theorem ok_Mo_flip : VOK y_Mo_flip c_Mo_flip 2 (some .int) 1 := ⟨g_at 854 (by decide +kernel) (by decide +kernel), g_at 855 (by decide +kernel) (by decide +kernel), g_at 51 (by decide +kernel) (by decide +kernel), wc_Mo_flip, ⟨by decide +kernel, by decide +kernel, by decide +kernel⟩⟩
theorem ok_Mo_turn : VOK y_Mo_turn c_Mo_turn 4 (some .int) 0 := ⟨g_at 859 (by decide +kernel) (by decide +kernel), g_at 860 (by decide +kernel) (by decide +kernel), g_at 51 (by decide +kernel) (by decide +kernel), wc_Mo_turn, ⟨by decide +kernel, by decide +kernel, by decide +kernel⟩⟩
theorem ok_Mo_row : VOK y_Mo_row c_Mo_row 1 (some .int) 0 := ⟨g_at 864 (by decide +kernel) (by decide +kernel), g_at 31 (by decide +kernel) (by decide +kernel), g_at 51 (by decide +kernel) (by decide +kernel), wc_Mo_row, ⟨by decide +kernel, by decide +kernel, by decide +kernel⟩⟩
theorem ok_Mo_mirror : VOK y_Mo_mirror c_Mo_mirror 4 (some .int) 0 := ⟨g_at 867 (by decide +kernel) (by decide +kernel), g_at 868 (by decide +kernel) (by decide +kernel), g_at 51 (by decide +kernel) (by decide +kernel), wc_Mo_mirror, ⟨by decide +kernel, by decide +kernel, by decide +kernel⟩⟩
theorem ok_Mo_hold : VOK y_Mo_hold c_Mo_hold 3 (some .int) 1 := ⟨g_at 871 (by decide +kernel) (by decide +kernel), g_at 872 (by decide +kernel) (by decide +kernel), g_at 51 (by decide +kernel) (by decide +kernel), wc_Mo_hold, ⟨by decide +kernel, by decide +kernel, by decide +kernel⟩⟩
theorem ok_Mo_put : VOK y_Mo_put c_Mo_put 2 (some .int) 1 := ⟨g_at 875 (by decide +kernel) (by decide +kernel), g_at 876 (by decide +kernel) (by decide +kernel), g_at 51 (by decide +kernel) (by decide +kernel), wc_Mo_put, ⟨by decide +kernel, by decide +kernel, by decide +kernel⟩⟩
theorem ok_Mo_add : VOK y_Mo_add c_Mo_add 2 none 1 := ⟨g_at 883 (by decide +kernel) (by decide +kernel), g_at 32 (by decide +kernel) (by decide +kernel), g_at 51 (by decide +kernel) (by decide +kernel), wc_Mo_add, ⟨by decide +kernel, by decide +kernel, by decide +kernel⟩⟩
theorem ok_Mo_cut : VOK y_Mo_cut c_Mo_cut 3 (some .int) 1 := ⟨g_at 886 (by decide +kernel) (by decide +kernel), g_at 887 (by decide +kernel) (by decide +kernel), g_at 51 (by decide +kernel) (by decide +kernel), wc_Mo_cut, ⟨by decide +kernel, by decide +kernel, by decide +kernel⟩⟩
theorem ok_Mo_take : VOK y_Mo_take c_Mo_take 4 (some .int) 1 := ⟨g_at 890 (by decide +kernel) (by decide +kernel), g_at 891 (by decide +kernel) (by decide +kernel), g_at 51 (by decide +kernel) (by decide +kernel), wc_Mo_take, ⟨by decide +kernel, by decide +kernel, by decide +kernel⟩⟩
theorem ok_Mo_kind : VOK y_Mo_kind c_Mo_kind 4 (some .int) 2 := ⟨g_at 894 (by decide +kernel) (by decide +kernel), g_at 895 (by decide +kernel) (by decide +kernel), g_at 51 (by decide +kernel) (by decide +kernel), wc_Mo_kind, ⟨by decide +kernel, by decide +kernel, by decide +kernel⟩⟩
theorem ok_Mo_drift : VOK y_Mo_drift c_Mo_drift 3 (some .int) 1 := ⟨g_at 898 (by decide +kernel) (by decide +kernel), g_at 899 (by decide +kernel) (by decide +kernel), g_at 51 (by decide +kernel) (by decide +kernel), wc_Mo_drift, ⟨by decide +kernel, by decide +kernel, by decide +kernel⟩⟩
theorem ok_Mo_lot : VOK y_Mo_lot c_Mo_lot 8 none 0 := ⟨g_at 904 (by decide +kernel) (by decide +kernel), g_at 33 (by decide +kernel) (by decide +kernel), g_at 51 (by decide +kernel) (by decide +kernel), wc_Mo_lot, ⟨by decide +kernel, by decide +kernel, by decide +kernel⟩⟩
theorem ok_Mo_draw : VOK y_Mo_draw c_Mo_draw 2 (some .int) 1 := ⟨g_at 908 (by decide +kernel) (by decide +kernel), g_at 34 (by decide +kernel) (by decide +kernel), g_at 51 (by decide +kernel) (by decide +kernel), wc_Mo_draw, ⟨by decide +kernel, by decide +kernel, by decide +kernel⟩⟩
theorem ok_Mo_undo : VOK y_Mo_undo c_Mo_undo 2 (some .int) 1 := ⟨g_at 915 (by decide +kernel) (by decide +kernel), g_at 916 (by decide +kernel) (by decide +kernel), g_at 51 (by decide +kernel) (by decide +kernel), wc_Mo_undo, ⟨by decide +kernel, by decide +kernel, by decide +kernel⟩⟩
theorem ok_Mo_become : VOK y_Mo_become c_Mo_become 5 none 3 := ⟨g_at 920 (by decide +kernel) (by decide +kernel), g_at 35 (by decide +kernel) (by decide +kernel), g_at 51 (by decide +kernel) (by decide +kernel), wc_Mo_become, ⟨by decide +kernel, by decide +kernel, by decide +kernel⟩⟩
theorem ok_Mo_near : VOK y_Mo_near c_Mo_near 7 (some .long) 1 := ⟨g_at 923 (by decide +kernel) (by decide +kernel), g_at 924 (by decide +kernel) (by decide +kernel), g_at 51 (by decide +kernel) (by decide +kernel), wc_Mo_near, ⟨by decide +kernel, by decide +kernel, by decide +kernel⟩⟩
theorem ok_Mo_nearest : VOK y_Mo_nearest c_Mo_nearest 2 (some .int) 1 := ⟨g_at 928 (by decide +kernel) (by decide +kernel), g_at 929 (by decide +kernel) (by decide +kernel), g_at 51 (by decide +kernel) (by decide +kernel), wc_Mo_nearest, ⟨by decide +kernel, by decide +kernel, by decide +kernel⟩⟩
theorem ok_Mo_apart : VOK y_Mo_apart c_Mo_apart 3 (some .int) 2 := ⟨g_at 932 (by decide +kernel) (by decide +kernel), g_at 933 (by decide +kernel) (by decide +kernel), g_at 51 (by decide +kernel) (by decide +kernel), wc_Mo_apart, ⟨by decide +kernel, by decide +kernel, by decide +kernel⟩⟩
theorem ok_Mo_groups : VOK y_Mo_groups c_Mo_groups 2 (some .int) 1 := ⟨g_at 936 (by decide +kernel) (by decide +kernel), g_at 937 (by decide +kernel) (by decide +kernel), g_at 51 (by decide +kernel) (by decide +kernel), wc_Mo_groups, ⟨by decide +kernel, by decide +kernel, by decide +kernel⟩⟩
theorem ok_Mo_layGroups : VOK y_Mo_layGroups c_Mo_layGroups 5 (some .int) 1 := ⟨g_at 941 (by decide +kernel) (by decide +kernel), g_at 36 (by decide +kernel) (by decide +kernel), g_at 51 (by decide +kernel) (by decide +kernel), wc_Mo_layGroups, ⟨by decide +kernel, by decide +kernel, by decide +kernel⟩⟩
theorem ok_Mo_group : VOK y_Mo_group c_Mo_group 5 (some .int) 3 := ⟨g_at 944 (by decide +kernel) (by decide +kernel), g_at 945 (by decide +kernel) (by decide +kernel), g_at 51 (by decide +kernel) (by decide +kernel), wc_Mo_group, ⟨by decide +kernel, by decide +kernel, by decide +kernel⟩⟩
theorem ok_Mo_leastOf : VOK y_Mo_leastOf c_Mo_leastOf 4 (some .int) 1 := ⟨g_at 949 (by decide +kernel) (by decide +kernel), g_at 37 (by decide +kernel) (by decide +kernel), g_at 51 (by decide +kernel) (by decide +kernel), wc_Mo_leastOf, ⟨by decide +kernel, by decide +kernel, by decide +kernel⟩⟩
theorem ok_Mo_manyOf : VOK y_Mo_manyOf c_Mo_manyOf 4 (some .int) 1 := ⟨g_at 953 (by decide +kernel) (by decide +kernel), g_at 38 (by decide +kernel) (by decide +kernel), g_at 51 (by decide +kernel) (by decide +kernel), wc_Mo_manyOf, ⟨by decide +kernel, by decide +kernel, by decide +kernel⟩⟩
theorem ok_Mo_wide : VOK y_Mo_wide c_Mo_wide 6 (some .int) 1 := ⟨g_at 957 (by decide +kernel) (by decide +kernel), g_at 39 (by decide +kernel) (by decide +kernel), g_at 51 (by decide +kernel) (by decide +kernel), wc_Mo_wide, ⟨by decide +kernel, by decide +kernel, by decide +kernel⟩⟩
theorem ok_Mo_middle : VOK y_Mo_middle c_Mo_middle 9 (some .long) 2 := ⟨g_at 960 (by decide +kernel) (by decide +kernel), g_at 961 (by decide +kernel) (by decide +kernel), g_at 51 (by decide +kernel) (by decide +kernel), wc_Mo_middle, ⟨by decide +kernel, by decide +kernel, by decide +kernel⟩⟩
theorem ok_Mo_fewest : VOK y_Mo_fewest c_Mo_fewest 9 (some .int) 2 := ⟨g_at 964 (by decide +kernel) (by decide +kernel), g_at 965 (by decide +kernel) (by decide +kernel), g_at 51 (by decide +kernel) (by decide +kernel), wc_Mo_fewest, ⟨by decide +kernel, by decide +kernel, by decide +kernel⟩⟩
theorem ok_Mo_cutBy : SOK y_Mo_cutBy c_Mo_cutBy 6 (some .long) 2 := ⟨g_at 969 (by decide +kernel) (by decide +kernel), g_at 51 (by decide +kernel) (by decide +kernel), wc_Mo_cutBy, ⟨by decide +kernel, by decide +kernel, by decide +kernel⟩⟩
theorem ok_Mo_isMore : SOK y_Mo_isMore c_Mo_isMore 5 (some .boolean) 3 := ⟨g_at 972 (by decide +kernel) (by decide +kernel), g_at 51 (by decide +kernel) (by decide +kernel), wc_Mo_isMore, ⟨by decide +kernel, by decide +kernel, by decide +kernel⟩⟩
theorem ok_Mo_see : VOK y_Mo_see c_Mo_see 2 (some .int) 1 := ⟨g_at 975 (by decide +kernel) (by decide +kernel), g_at 976 (by decide +kernel) (by decide +kernel), g_at 51 (by decide +kernel) (by decide +kernel), wc_Mo_see, ⟨by decide +kernel, by decide +kernel, by decide +kernel⟩⟩
theorem ok_Mo_write : VOK y_Mo_write c_Mo_write 4 (some .int) 3 := ⟨g_at 979 (by decide +kernel) (by decide +kernel), g_at 980 (by decide +kernel) (by decide +kernel), g_at 51 (by decide +kernel) (by decide +kernel), wc_Mo_write, ⟨by decide +kernel, by decide +kernel, by decide +kernel⟩⟩
theorem ok_Mo_tear : VOK y_Mo_tear c_Mo_tear 2 (some .int) 0 := ⟨g_at 983 (by decide +kernel) (by decide +kernel), g_at 984 (by decide +kernel) (by decide +kernel), g_at 51 (by decide +kernel) (by decide +kernel), wc_Mo_tear, ⟨by decide +kernel, by decide +kernel, by decide +kernel⟩⟩
theorem ok_Mo_seed : VOK y_Mo_seed c_Mo_seed 3 (some .int) 1 := ⟨g_at 987 (by decide +kernel) (by decide +kernel), g_at 988 (by decide +kernel) (by decide +kernel), g_at 51 (by decide +kernel) (by decide +kernel), wc_Mo_seed, ⟨by decide +kernel, by decide +kernel, by decide +kernel⟩⟩
theorem ok_Mo_keep : VOK y_Mo_keep c_Mo_keep 2 (some .int) 1 := ⟨g_at 991 (by decide +kernel) (by decide +kernel), g_at 992 (by decide +kernel) (by decide +kernel), g_at 51 (by decide +kernel) (by decide +kernel), wc_Mo_keep, ⟨by decide +kernel, by decide +kernel, by decide +kernel⟩⟩
theorem ok_Mo_goBack : VOK y_Mo_goBack c_Mo_goBack 2 (some .int) 1 := ⟨g_at 995 (by decide +kernel) (by decide +kernel), g_at 996 (by decide +kernel) (by decide +kernel), g_at 51 (by decide +kernel) (by decide +kernel), wc_Mo_goBack, ⟨by decide +kernel, by decide +kernel, by decide +kernel⟩⟩
theorem e_0 {o : OM} (f : Nat → Int32) (g : Nat → Int64) : cE o f g 0 = .inr (9, fNm o 0 f g) := rfl
theorem b_0 : 0 < 111 := by decide
theorem e_1 {o : OM} (f : Nat → Int32) (g : Nat → Int64) : cE o f g 1 = .inr (8, fSt o 1 f g) := rfl
theorem b_1 : 1 < 111 := by decide
theorem e_2 {o : OM} (f : Nat → Int32) (g : Nat → Int64) : cE o f g 2 = aJ o 40 g := rfl
theorem b_2 : 2 < 111 := by decide
theorem e_3 {o : OM} (f : Nat → Int32) (g : Nat → Int64) : cE o f g 3 = aI o 40 f := rfl
theorem b_3 : 3 < 111 := by decide
theorem e_4 {o : OM} (f : Nat → Int32) (g : Nat → Int64) : cE o f g 4 = .inr (6, fPa o 4 f g) := rfl
theorem b_4 : 4 < 111 := by decide
theorem e_5 {o : OM} (f : Nat → Int32) (g : Nat → Int64) : cE o f g 5 = aSt o 20 (fun k => some (ads o (6 + 3 * k))) := rfl
theorem b_5 : 5 < 111 := by decide
theorem e_66 {o : OM} (f : Nat → Int32) (g : Nat → Int64) : cE o f g 66 = aIm o 2 (fun k => some (ads o (67 + 4 * k))) := rfl
theorem b_66 : 66 < 111 := by decide
theorem e_67 {o : OM} (f : Nat → Int32) (g : Nat → Int64) : cE o f g 67 = .inr (4, fIm o 67 f g) := rfl
theorem b_67 : 67 < 111 := by decide
theorem e_68 {o : OM} (f : Nat → Int32) (g : Nat → Int64) : cE o f g 68 = .inr (8, fSt o 68 f g) := rfl
theorem b_68 : 68 < 111 := by decide
theorem e_69 {o : OM} (f : Nat → Int32) (g : Nat → Int64) : cE o f g 69 = aJ o 40 g := rfl
theorem b_69 : 69 < 111 := by decide
theorem e_70 {o : OM} (f : Nat → Int32) (g : Nat → Int64) : cE o f g 70 = aI o 40 f := rfl
theorem b_70 : 70 < 111 := by decide
theorem e_71 {o : OM} (f : Nat → Int32) (g : Nat → Int64) : cE o f g 71 = .inr (4, fIm o 71 f g) := rfl
theorem b_71 : 71 < 111 := by decide
theorem e_72 {o : OM} (f : Nat → Int32) (g : Nat → Int64) : cE o f g 72 = .inr (8, fSt o 72 f g) := rfl
theorem b_72 : 72 < 111 := by decide
theorem e_73 {o : OM} (f : Nat → Int32) (g : Nat → Int64) : cE o f g 73 = aJ o 40 g := rfl
theorem b_73 : 73 < 111 := by decide
theorem e_74 {o : OM} (f : Nat → Int32) (g : Nat → Int64) : cE o f g 74 = aI o 40 f := rfl
theorem b_74 : 74 < 111 := by decide
theorem e_75 {o : OM} (f : Nat → Int32) (g : Nat → Int64) : cE o f g 75 = .inr (5, fPt o 75 f g) := rfl
theorem b_75 : 75 < 111 := by decide
theorem e_76 {o : OM} (f : Nat → Int32) (g : Nat → Int64) : cE o f g 76 = aI o 8 f := rfl
theorem b_76 : 76 < 111 := by decide
theorem e_77 {o : OM} (f : Nat → Int32) (g : Nat → Int64) : cE o f g 77 = aJ o 8 g := rfl
theorem b_77 : 77 < 111 := by decide
theorem e_78 {o : OM} (f : Nat → Int32) (g : Nat → Int64) : cE o f g 78 = .inr (5, fPt o 78 f g) := rfl
theorem b_78 : 78 < 111 := by decide
theorem e_79 {o : OM} (f : Nat → Int32) (g : Nat → Int64) : cE o f g 79 = aI o 8 f := rfl
theorem b_79 : 79 < 111 := by decide
theorem e_80 {o : OM} (f : Nat → Int32) (g : Nat → Int64) : cE o f g 80 = aJ o 8 g := rfl
theorem b_80 : 80 < 111 := by decide
theorem e_81 {o : OM} (f : Nat → Int32) (g : Nat → Int64) : cE o f g 81 = .inr (3, fGr o 81 f g) := rfl
theorem b_81 : 81 < 111 := by decide
theorem e_82 {o : OM} (f : Nat → Int32) (g : Nat → Int64) : cE o f g 82 = aJ o 40 g := rfl
theorem b_82 : 82 < 111 := by decide
theorem e_83 {o : OM} (f : Nat → Int32) (g : Nat → Int64) : cE o f g 83 = aJ o 40 g := rfl
theorem b_83 : 83 < 111 := by decide
theorem e_84 {o : OM} (f : Nat → Int32) (g : Nat → Int64) : cE o f g 84 = .inr (1, fCo o 84 f g) := rfl
theorem b_84 : 84 < 111 := by decide
theorem e_85 {o : OM} (f : Nat → Int32) (g : Nat → Int64) : cE o f g 85 = aJ o 64 g := rfl
theorem b_85 : 85 < 111 := by decide
theorem e_86 {o : OM} (f : Nat → Int32) (g : Nat → Int64) : cE o f g 86 = .inr (7, fSi o 86 f g) := rfl
theorem b_86 : 86 < 111 := by decide
theorem e_87 {o : OM} (f : Nat → Int32) (g : Nat → Int64) : cE o f g 87 = aJ o 6 g := rfl
theorem b_87 : 87 < 111 := by decide
theorem e_88 {o : OM} (f : Nat → Int32) (g : Nat → Int64) : cE o f g 88 = aI o 6 f := rfl
theorem b_88 : 88 < 111 := by decide
theorem e_89 {o : OM} (f : Nat → Int32) (g : Nat → Int64) : cE o f g 89 = aI o 65 f := rfl
theorem b_89 : 89 < 111 := by decide
theorem e_90 {o : OM} (f : Nat → Int32) (g : Nat → Int64) : cE o f g 90 = .inr (0, fBk o 90 f g) := rfl
theorem b_90 : 90 < 111 := by decide
theorem e_91 {o : OM} (f : Nat → Int32) (g : Nat → Int64) : cE o f g 91 = aI o 20 f := rfl
theorem b_91 : 91 < 111 := by decide
theorem e_92 {o : OM} (f : Nat → Int32) (g : Nat → Int64) : cE o f g 92 = aI o 20 f := rfl
theorem b_92 : 92 < 111 := by decide
theorem e_93 {o : OM} (f : Nat → Int32) (g : Nat → Int64) : cE o f g 93 = aI o 20 f := rfl
theorem b_93 : 93 < 111 := by decide
theorem e_94 {o : OM} (f : Nat → Int32) (g : Nat → Int64) : cE o f g 94 = .inr (2, fDr o 94 f g) := rfl
theorem b_94 : 94 < 111 := by decide
theorem e_95 {o : OM} (f : Nat → Int32) (g : Nat → Int64) : cE o f g 95 = .inr (10, fMo o 95 f g) := rfl
theorem b_95 : 95 < 111 := by decide
theorem e_96 {o : OM} (f : Nat → Int32) (g : Nat → Int64) : cE o f g 96 = aJ o 43 g := rfl
theorem b_96 : 96 < 111 := by decide
theorem e_97 {o : OM} (f : Nat → Int32) (g : Nat → Int64) : cE o f g 97 = aI o 40 f := rfl
theorem b_97 : 97 < 111 := by decide
theorem e_98 {o : OM} (f : Nat → Int32) (g : Nat → Int64) : cE o f g 98 = aJ o 860 g := rfl
theorem b_98 : 98 < 111 := by decide
theorem e_99 {o : OM} (f : Nat → Int32) (g : Nat → Int64) : cE o f g 99 = aI o 800 f := rfl
theorem b_99 : 99 < 111 := by decide
theorem e_100 {o : OM} (f : Nat → Int32) (g : Nat → Int64) : cE o f g 100 = aJ o 86 g := rfl
theorem b_100 : 100 < 111 := by decide
theorem e_101 {o : OM} (f : Nat → Int32) (g : Nat → Int64) : cE o f g 101 = aI o 80 f := rfl
theorem b_101 : 101 < 111 := by decide
theorem e_102 {o : OM} (f : Nat → Int32) (g : Nat → Int64) : cE o f g 102 = aI o 2 f := rfl
theorem b_102 : 102 < 111 := by decide
theorem e_103 {o : OM} (f : Nat → Int32) (g : Nat → Int64) : cE o f g 103 = aZ o 2 f := rfl
theorem b_103 : 103 < 111 := by decide
theorem e_104 {o : OM} (f : Nat → Int32) (g : Nat → Int64) : cE o f g 104 = aJ o 6 g := rfl
theorem b_104 : 104 < 111 := by decide
theorem e_105 {o : OM} (f : Nat → Int32) (g : Nat → Int64) : cE o f g 105 = aI o 6 f := rfl
theorem b_105 : 105 < 111 := by decide
theorem e_106 {o : OM} (f : Nat → Int32) (g : Nat → Int64) : cE o f g 106 = aI o 20 f := rfl
theorem b_106 : 106 < 111 := by decide
theorem e_107 {o : OM} (f : Nat → Int32) (g : Nat → Int64) : cE o f g 107 = aI o 20 f := rfl
theorem b_107 : 107 < 111 := by decide
theorem e_108 {o : OM} (f : Nat → Int32) (g : Nat → Int64) : cE o f g 108 = aI o 20 f := rfl
theorem b_108 : 108 < 111 := by decide
theorem e_109 {o : OM} (f : Nat → Int32) (g : Nat → Int64) : cE o f g 109 = aI o 40 f := rfl
theorem b_109 : 109 < 111 := by decide
theorem e_110 {o : OM} (f : Nat → Int32) (g : Nat → Int64) : cE o f g 110 = aI o 65 f := rfl
theorem b_110 : 110 < 111 := by decide
/-- the stores: now, the twenty of the past, the two images -/
def isSt (a : Nat) : Prop := a = 1 ∨ a = 68 ∨ a = 72 ∨ ∃ k, k < 20 ∧ a = 6 + 3 * k
theorem isSt.b0 {a : Nat} (h : isSt a) : a < 111 := by rcases h with h | h | h | ⟨k, h, h2⟩ <;> omega
theorem isSt.b1 {a : Nat} (h : isSt a) : a + 1 < 111 := by rcases h with h | h | h | ⟨k, h, h2⟩ <;> omega
theorem isSt.b2 {a : Nat} (h : isSt a) : a + 2 < 111 := by rcases h with h | h | h | ⟨k, h, h2⟩ <;> omega
theorem isSt.e0 {o : OM} {a : Nat} (h : isSt a) (f : Nat → Int32) (g : Nat → Int64) : cE o f g a = .inr (8, fSt o a f g) := by
  rcases h with rfl | rfl | rfl | ⟨k, h, rfl⟩
  · rfl
  · rfl
  · rfl
  · unfold cE; rw [if_pos (by omega), if_pos (by omega)]
theorem isSt.e1 {o : OM} {a : Nat} (h : isSt a) (f : Nat → Int32) (g : Nat → Int64) : cE o f g (a + 1) = aJ o 40 g := by
  rcases h with rfl | rfl | rfl | ⟨k, h, rfl⟩
  · rfl
  · rfl
  · rfl
  · unfold cE; rw [if_pos (by omega), if_neg (by omega), if_pos (by omega)]
theorem isSt.e2 {o : OM} {a : Nat} (h : isSt a) (f : Nat → Int32) (g : Nat → Int64) : cE o f g (a + 2) = aI o 40 f := by
  rcases h with rfl | rfl | rfl | ⟨k, h, rfl⟩
  · rfl
  · rfl
  · rfl
  · unfold cE; rw [if_pos (by omega), if_neg (by omega), if_neg (by omega)]
def isPt (a : Nat) : Prop := a = 75 ∨ a = 78
theorem isPt.b0 {a : Nat} (h : isPt a) : a < 111 := by rcases h with h | h <;> omega
theorem isPt.b1 {a : Nat} (h : isPt a) : a + 1 < 111 := by rcases h with h | h <;> omega
theorem isPt.b2 {a : Nat} (h : isPt a) : a + 2 < 111 := by rcases h with h | h <;> omega
theorem isPt.e0 {o : OM} {a : Nat} (h : isPt a) (f : Nat → Int32) (g : Nat → Int64) : cE o f g a = .inr (5, fPt o a f g) := by
  rcases h with rfl | rfl <;> rfl
theorem isPt.e1 {o : OM} {a : Nat} (h : isPt a) (f : Nat → Int32) (g : Nat → Int64) : cE o f g (a + 1) = aI o 8 f := by
  rcases h with rfl | rfl <;> rfl
theorem isPt.e2 {o : OM} {a : Nat} (h : isPt a) (f : Nat → Int32) (g : Nat → Int64) : cE o f g (a + 2) = aJ o 8 g := by
  rcases h with rfl | rfl <;> rfl
theorem isSt.now : isSt 1 := Or.inl rfl
theorem isSt.im0 : isSt 68 := Or.inr (Or.inl rfl)
theorem isSt.im1 : isSt 72 := Or.inr (Or.inr (Or.inl rfl))
theorem isSt.ring {k : Nat} (h : k < 20) : isSt (6 + 3 * k) := Or.inr (Or.inr (Or.inr ⟨k, h, rfl⟩))

set_option maxRecDepth 100000 in
theorem Y_L_acts : og_Y yL_acts cL_acts 15 (some FieldType.boolean) 5 := ⟨og_in 12 (by decide +kernel) rfl, og_in 198 rfl rfl, by decide, by decide +kernel, by decide⟩
set_option maxRecDepth 100000 in
theorem Y_L_isSo : og_Y yL_isSo cL_isSo 15 (some FieldType.boolean) 5 := ⟨og_in 12 (by decide +kernel) rfl, og_in 685 rfl rfl, by decide, by decide +kernel, by decide⟩

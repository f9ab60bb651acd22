set_option maxRecDepth 20000 in
theorem th_type : Cond.codeWith yL_type cL_type 8 (some .int) [(0, 16, 19, 13)] ∈ GT := GT_3 169 rfl rfl
set_option maxRecDepth 20000 in
theorem th_number : Cond.codeWith yL_number cL_number 5 (some .int) [(0, 9, 12, 13)] ∈ GT := GT_4 11 rfl rfl
set_option maxRecDepth 20000 in
theorem th_text : Cond.codeWith yL_text cL_text 3 (some .int) [(0, 8, 11, 13)] ∈ GT := GT_4 22 rfl rfl
set_option maxRecDepth 20000 in
theorem th_room : Cond.codeWith yL_room cL_room 3 (some .int) [(0, 5, 8, 27)] ∈ GT := GT_4 34 rfl rfl
set_option maxRecDepth 20000 in
theorem th_feed : Cond.codeWith yL_feed cL_feed 8 (some .int) [(0, 16, 19, 27), (0, 16, 23, 13)] ∈ GT := GT_4 61 rfl rfl
set_option maxRecDepth 20000 in
theorem th_cut : Cond.codeWith yL_cut cL_cut 4 (some .int) [(0, 9, 12, 27)] ∈ GT := GT_4 72 rfl rfl
set_option maxRecDepth 20000 in
theorem th_words : Cond.codeWith yL_words cL_words 7 (some .int) [(0, 14, 17, 27)] ∈ GT := GT_4 80 rfl rfl
set_option maxRecDepth 20000 in
theorem th_pairs : Cond.codeWith yL_pairs cL_pairs 6 (some .int) [(0, 12, 15, 27)] ∈ GT := GT_4 156 rfl rfl
set_option maxRecDepth 20000 in
theorem th_back : Cond.codeWith yL_back cL_back 5 (some .int) [(0, 10, 13, 27)] ∈ GT := GT_4 196 rfl rfl
set_option maxRecDepth 20000 in
theorem th_patch : Cond.codeWith yL_patch cL_patch 5 (some .int) [(0, 10, 13, 51), (0, 10, 17, 27)] ∈ GT := GT_5 12 rfl rfl
set_option maxRecDepth 20000 in
theorem th_trim : Cond.codeWith yL_trim cL_trim 4 (some .int) [(0, 9, 12, 27)] ∈ GT := GT_5 39 rfl rfl

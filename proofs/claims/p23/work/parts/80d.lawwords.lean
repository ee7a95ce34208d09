set_option maxRecDepth 20000 in
theorem gs_0 : GoodIn wsL_law [Cond.code yL_same cL_same 20 (some .boolean)] := fun w hw => by
  rw [List.mem_singleton.mp hw]
  exact ⟨(show Cond.code yL_same cL_same 20 (some .boolean) ∈ wsL_law from List.mem_append_left _ (List.mem_append_left _ (List.mem_append_left _ (List.mem_append_left _ (List.mem_append_left _ (List.mem_append_left _ (List.mem_append_left _ (List.mem_append_left _ (List.mem_append_left _ (List.mem_append_left _ (List.mem_append_right _ (List.mem_append_right _ (List.mem_append_right _ (List.mem_append_right _ (List.mem_append_right _ (List.mem_append_right _ (List.mem_append_right _ (List.mem_append_right _ (List.mem_append_right _ (List.mem_append_right _ (List.mem_append_right _ (List.mem_append_right _ (List.mem_append_right _ (List.mem_append_right _ (List.mem_append_right _ (List.mem_append_left _ (List.mem_of_getElem? (i := 23) (by with_unfolding_all rfl) : Cond.code yL_same cL_same 20 (some .boolean) ∈ wsL_law_r16))))))))))))))))))))))))))), Or.inl rfl⟩
set_option maxRecDepth 20000 in
theorem gs_wsL_same_r1 : GoodIn wsL_law wsL_same_r1 := goodIn_r _ [7, 183, 128, 289, 290, 125, 291, 292, 293, 294, 295, 296, 297, 129, 130, 131, 132, 133, 134, 127, 140, 141, 142, 143] (by decide +kernel) (by decide +kernel)
set_option maxRecDepth 20000 in
theorem gs_wsL_same_r2 : GoodIn wsL_law wsL_same_r2 := goodIn_r _ [384, 385, 386, 2, 387, 148, 17, 34, 339, 309, 310, 311, 312, 313, 195, 196, 51, 197, 97, 149, 87, 88, 388, 203] (by decide +kernel) (by decide +kernel)
set_option maxRecDepth 20000 in
theorem gs_wsL_same_r3 : GoodIn wsL_law wsL_same_r3 := goodIn_r _ [204, 16, 205, 52, 46, 206, 207, 208, 33, 209, 210, 211, 212, 213, 214, 67, 215, 216, 217, 218, 68, 219, 220, 221] (by decide +kernel) (by decide +kernel)
set_option maxRecDepth 20000 in
theorem gs_wsL_same_r4 : GoodIn wsL_law wsL_same_r4 := goodIn_r _ [45, 222, 223, 74, 75, 76, 57, 77, 78, 79, 80, 81, 82, 224, 225, 226, 227, 119, 120, 121, 228, 229, 230, 231] (by decide +kernel) (by decide +kernel)
set_option maxRecDepth 20000 in
theorem gs_wsL_same_r5 : GoodIn wsL_law wsL_same_r5 := goodIn_r _ [232, 233, 234, 235, 122, 236, 237, 238, 239, 240, 241, 389, 243, 244, 245, 246, 247, 248, 249, 250, 251, 252, 253, 390] (by decide +kernel) (by decide +kernel)
set_option maxRecDepth 20000 in
theorem gs_wsL_same_r6 : GoodIn wsL_law wsL_same_r6 := goodIn_r _ [391, 392, 393, 394, 395, 396, 397, 398, 399, 400, 401, 402, 320, 321, 322, 403, 404, 405, 406, 407, 408, 409, 410, 411] (by decide +kernel) (by decide +kernel)

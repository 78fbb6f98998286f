/-! the law's words stand in the tables: by their places, chunk by chunk (the printed row wsL_law_in0 counts six places too many) -/
def kt_blk : Nat → List Cond := fun k => match k with
  | 0 => kt_sb
  | 1 => k2_sels lw_privs
  | 2 => tables_1_1
  | 3 => tables_1_2
  | 4 => tables_1_3
  | 5 => tables_1_4
  | 6 => tables_1_5
  | 7 => tables_1_6
  | 8 => tables_1_7
  | _ => tables_1_8
theorem kt_mem : ∀ (k : Nat) (w : Cond), w ∈ kt_blk k → w ∈ lw_tbl
  | 0, w, h => List.mem_append_left _ h
  | 1, w, h => List.mem_append_right _ (List.mem_append_left _ h)
  | 2, w, h => List.mem_append_right _ (List.mem_append_right _ (show w ∈ tables_1 from List.mem_append_left _ h))
  | 3, w, h => List.mem_append_right _ (List.mem_append_right _ (show w ∈ tables_1 from List.mem_append_right _ (List.mem_append_left _ h)))
  | 4, w, h => List.mem_append_right _ (List.mem_append_right _ (show w ∈ tables_1 from List.mem_append_right _ (List.mem_append_right _ (List.mem_append_left _ h))))
  | 5, w, h => List.mem_append_right _ (List.mem_append_right _ (show w ∈ tables_1 from List.mem_append_right _ (List.mem_append_right _ (List.mem_append_right _ (List.mem_append_left _ h)))))
  | 6, w, h => List.mem_append_right _ (List.mem_append_right _ (show w ∈ tables_1 from List.mem_append_right _ (List.mem_append_right _ (List.mem_append_right _ (List.mem_append_right _ (List.mem_append_left _ h))))))
  | 7, w, h => List.mem_append_right _ (List.mem_append_right _ (show w ∈ tables_1 from List.mem_append_right _ (List.mem_append_right _ (List.mem_append_right _ (List.mem_append_right _ (List.mem_append_right _ (List.mem_append_left _ h)))))))
  | 8, w, h => List.mem_append_right _ (List.mem_append_right _ (show w ∈ tables_1 from List.mem_append_right _ (List.mem_append_right _ (List.mem_append_right _ (List.mem_append_right _ (List.mem_append_right _ (List.mem_append_right _ (List.mem_append_left _ h))))))))
  | n + 9, w, h => List.mem_append_right _ (List.mem_append_right _ (show w ∈ tables_1 from List.mem_append_right _ (List.mem_append_right _ (List.mem_append_right _ (List.mem_append_right _ (List.mem_append_right _ (List.mem_append_right _ (List.mem_append_right _ (h)))))))))
theorem kt_in (ws : List Cond) (ps : List (Nat × Nat)) (h : ws = ps.filterMap (fun q => (kt_blk q.1)[q.2]?)) : ∀ w ∈ ws, w ∈ lw_tbl := by
  intro w hw
  rw [h] at hw
  obtain ⟨q, -, hq⟩ := List.mem_filterMap.mp hw
  exact kt_mem q.1 w (List.mem_of_getElem? hq)
set_option maxRecDepth 20000 in
theorem wsL_in_r1 : ∀ w ∈ wsL_law0_r1, w ∈ lw_tbl := kt_in _ [(2, 30), (2, 31), (2, 1), (7, 134), (7, 135), (2, 10), (9, 56), (9, 57), (2, 32), (2, 33), (2, 34), (2, 35), (2, 36), (2, 37), (2, 38), (2, 39), (2, 2), (2, 232), (2, 233), (2, 234), (2, 132), (2, 133), (2, 3), (2, 235)] (by decide +kernel)
set_option maxRecDepth 20000 in
theorem wsL_in_r2 : ∀ w ∈ wsL_law0_r2, w ∈ lw_tbl := kt_in _ [(2, 152), (2, 153), (2, 4), (2, 236), (2, 171), (2, 172), (2, 5), (2, 237), (2, 238), (2, 199), (2, 200), (2, 7), (2, 239), (2, 41), (2, 42), (2, 43), (2, 49), (2, 131), (2, 58), (2, 61), (2, 67), (2, 70), (2, 72), (2, 75)] (by decide +kernel)
set_option maxRecDepth 20000 in
theorem wsL_in_r3 : ∀ w ∈ wsL_law0_r3, w ∈ lw_tbl := kt_in _ [(2, 78), (2, 80), (2, 82), (2, 135), (2, 136), (2, 137), (2, 138), (2, 141), (2, 155), (2, 156), (2, 157), (2, 174), (2, 175), (2, 176), (2, 198), (2, 177), (2, 185), (2, 201), (2, 202), (2, 203), (2, 204), (2, 205), (2, 6), (2, 206)] (by decide +kernel)
set_option maxRecDepth 20000 in
theorem wsL_in_r4 : ∀ w ∈ wsL_law0_r4, w ∈ lw_tbl := kt_in _ [(2, 207), (2, 208), (2, 231), (2, 217), (2, 218), (2, 210), (2, 211), (2, 9), (2, 212), (2, 213), (2, 214), (2, 215), (2, 216), (7, 136), (7, 137), (7, 138), (7, 139), (7, 140), (7, 141), (7, 142), (7, 144), (7, 146), (7, 148), (7, 152)] (by decide +kernel)
set_option maxRecDepth 20000 in
theorem wsL_in_r5 : ∀ w ∈ wsL_law0_r5, w ∈ lw_tbl := kt_in _ [(7, 153), (3, 32), (3, 33), (2, 0), (3, 34), (3, 35), (3, 36), (3, 37), (3, 38), (3, 39), (3, 40), (3, 42), (1, 1), (3, 43), (3, 154), (2, 14), (3, 46), (1, 2), (3, 47), (3, 48), (3, 50), (1, 3), (3, 51), (3, 53)] (by decide +kernel)
set_option maxRecDepth 20000 in
theorem wsL_in_r6 : ∀ w ∈ wsL_law0_r6, w ∈ lw_tbl := kt_in _ [(3, 54), (3, 55), (3, 57), (1, 4), (3, 58), (2, 158), (2, 160), (2, 162), (3, 59), (3, 61), (1, 5), (3, 62), (3, 63), (3, 65), (1, 6), (3, 66), (3, 69), (1, 7), (3, 70), (2, 64), (3, 71), (3, 73), (1, 8), (3, 74)] (by decide +kernel)
set_option maxRecDepth 20000 in
theorem wsL_in_r7 : ∀ w ∈ wsL_law0_r7, w ∈ lw_tbl := kt_in _ [(3, 77), (1, 9), (3, 78), (2, 55), (3, 79), (3, 81), (1, 10), (3, 82), (3, 83), (3, 85), (1, 11), (3, 86), (3, 87), (3, 89), (1, 12), (3, 90), (3, 91), (3, 93), (1, 13), (3, 94), (3, 97), (1, 14), (3, 98), (2, 44)] (by decide +kernel)
set_option maxRecDepth 20000 in
theorem wsL_in_r8 : ∀ w ∈ wsL_law0_r8, w ∈ lw_tbl := kt_in _ [(3, 101), (1, 15), (3, 102), (2, 46), (3, 103), (3, 105), (1, 16), (3, 106), (3, 111), (1, 17), (3, 112), (3, 113), (3, 115), (1, 18), (3, 116), (2, 52), (3, 117), (3, 119), (1, 19), (3, 120), (3, 123), (3, 125), (1, 20), (3, 126)] (by decide +kernel)
set_option maxRecDepth 20000 in
theorem wsL_in_r9 : ∀ w ∈ wsL_law0_r9, w ∈ lw_tbl := kt_in _ [(3, 130), (3, 131), (3, 135), (3, 132), (3, 133), (3, 134), (3, 136), (3, 138), (1, 21), (3, 139), (3, 140), (3, 142), (1, 22), (3, 143), (3, 145), (3, 146), (3, 147), (3, 149), (1, 23), (3, 150), (3, 152), (3, 153), (3, 228), (1, 25)] (by decide +kernel)
set_option maxRecDepth 20000 in
theorem wsL_in_r10 : ∀ w ∈ wsL_law0_r10, w ∈ lw_tbl := kt_in _ [(3, 229), (2, 142), (3, 27), (1, 0), (3, 28), (3, 29), (3, 31), (3, 30), (2, 15), (2, 84), (2, 86), (2, 88), (2, 90), (3, 233), (1, 26), (3, 234), (2, 143), (3, 235), (3, 236), (2, 16), (3, 237), (4, 0), (1, 27), (4, 1)] (by decide +kernel)
set_option maxRecDepth 20000 in
theorem wsL_in_r11 : ∀ w ∈ wsL_law0_r11, w ∈ lw_tbl := kt_in _ [(4, 2), (4, 4), (1, 28), (4, 5), (4, 6), (4, 8), (1, 29), (4, 9), (4, 10), (4, 12), (1, 30), (4, 13), (4, 14), (4, 16), (1, 31), (4, 17), (4, 18), (4, 20), (1, 32), (4, 21), (4, 22), (4, 24), (1, 33), (4, 25)] (by decide +kernel)
set_option maxRecDepth 20000 in
theorem wsL_in_r12 : ∀ w ∈ wsL_law0_r12, w ∈ lw_tbl := kt_in _ [(4, 26), (4, 28), (1, 34), (4, 29), (4, 30), (4, 32), (1, 35), (4, 33), (4, 35), (4, 37), (1, 36), (4, 38), (4, 39), (4, 41), (1, 37), (4, 42), (4, 44), (4, 45), (4, 46), (4, 47), (4, 49), (1, 38), (4, 50), (4, 51)] (by decide +kernel)
set_option maxRecDepth 20000 in
theorem wsL_in_r13 : ∀ w ∈ wsL_law0_r13, w ∈ lw_tbl := kt_in _ [(4, 53), (1, 39), (4, 54), (4, 55), (4, 57), (1, 40), (4, 58), (4, 61), (4, 62), (4, 63), (4, 64), (4, 66), (1, 41), (4, 67), (4, 68), (4, 69), (4, 71), (1, 42), (4, 72), (4, 74), (4, 75), (4, 76), (4, 78), (1, 43)] (by decide +kernel)
set_option maxRecDepth 20000 in
theorem wsL_in_r14 : ∀ w ∈ wsL_law0_r14, w ∈ lw_tbl := kt_in _ [(4, 79), (7, 211), (7, 212), (7, 213), (7, 214), (7, 215), (7, 217), (1, 62), (7, 218), (7, 161), (7, 156), (7, 219), (7, 220), (7, 221), (7, 222), (7, 224), (1, 63), (7, 225), (7, 154), (7, 155), (7, 157), (7, 226), (7, 228), (1, 64)] (by decide +kernel)
set_option maxRecDepth 20000 in
theorem wsL_in_r15 : ∀ w ∈ wsL_law0_r15, w ∈ lw_tbl := kt_in _ [(7, 229), (7, 158), (7, 230), (7, 232), (1, 65), (7, 233), (7, 143), (7, 234), (7, 236), (1, 66), (7, 237), (7, 207), (7, 208), (7, 209), (7, 210), (4, 80), (4, 81), (4, 82), (4, 83), (4, 84), (4, 85), (4, 86), (7, 238), (7, 239)] (by decide +kernel)
set_option maxRecDepth 20000 in
theorem wsL_in_r16 : ∀ w ∈ wsL_law0_r16, w ∈ lw_tbl := kt_in _ [(8, 0), (8, 1), (8, 2), (8, 4), (1, 67), (8, 5), (4, 87), (4, 88), (4, 89), (4, 90), (4, 91), (4, 92), (4, 93), (8, 6), (8, 7), (8, 8), (8, 9), (8, 10), (8, 12), (1, 68), (8, 13), (8, 14), (8, 16), (1, 69)] (by decide +kernel)
set_option maxRecDepth 20000 in
theorem wsL_in_r17 : ∀ w ∈ wsL_law0_r17, w ∈ lw_tbl := kt_in _ [(8, 17), (8, 18), (8, 20), (1, 70), (8, 21), (8, 22), (8, 24), (1, 71), (8, 25), (8, 26), (8, 28), (1, 72), (8, 29), (4, 94), (4, 95), (4, 96), (4, 97), (4, 98), (4, 99), (4, 100), (8, 30), (8, 31), (8, 32), (8, 33)] (by decide +kernel)
set_option maxRecDepth 20000 in
theorem wsL_in_r18 : ∀ w ∈ wsL_law0_r18, w ∈ lw_tbl := kt_in _ [(8, 34), (8, 36), (1, 73), (8, 37), (8, 38), (8, 40), (1, 74), (8, 41), (4, 101), (4, 102), (4, 103), (4, 104), (4, 105), (4, 106), (4, 107), (8, 42), (8, 43), (8, 44), (8, 45), (8, 46), (8, 48), (1, 75), (8, 49), (4, 108)] (by decide +kernel)
set_option maxRecDepth 20000 in
theorem wsL_in_r19 : ∀ w ∈ wsL_law0_r19, w ∈ lw_tbl := kt_in _ [(4, 109), (4, 110), (4, 111), (4, 112), (4, 113), (4, 114), (8, 50), (8, 51), (8, 52), (8, 53), (8, 54), (8, 56), (1, 76), (8, 57), (8, 58), (8, 60), (1, 77), (8, 61), (8, 62), (8, 64), (1, 78), (8, 65), (4, 115), (4, 116)] (by decide +kernel)
set_option maxRecDepth 20000 in
theorem wsL_in_r20 : ∀ w ∈ wsL_law0_r20, w ∈ lw_tbl := kt_in _ [(4, 117), (4, 118), (4, 119), (4, 120), (4, 121), (8, 66), (8, 67), (8, 68), (8, 69), (8, 70), (8, 72), (1, 79), (8, 73), (8, 74), (8, 76), (1, 80), (8, 77), (7, 159), (8, 78), (8, 80), (1, 81), (8, 81), (8, 82), (8, 84)] (by decide +kernel)
set_option maxRecDepth 20000 in
theorem wsL_in_r21 : ∀ w ∈ wsL_law0_r21, w ∈ lw_tbl := kt_in _ [(1, 82), (8, 85), (7, 160), (8, 86), (8, 87), (8, 88), (8, 89), (8, 91), (1, 83), (8, 92), (8, 93), (4, 122), (4, 123), (4, 124), (4, 125), (4, 126), (4, 127), (4, 128), (8, 94), (8, 95), (8, 96), (8, 97), (8, 98), (8, 100)] (by decide +kernel)
set_option maxRecDepth 20000 in
theorem wsL_in_r22 : ∀ w ∈ wsL_law0_r22, w ∈ lw_tbl := kt_in _ [(1, 84), (8, 101), (8, 102), (8, 104), (1, 85), (8, 105), (8, 106), (8, 108), (1, 86), (8, 109), (8, 110), (8, 111), (8, 112), (4, 129), (4, 130), (4, 131), (4, 132), (4, 133), (4, 134), (4, 135), (8, 113), (8, 114), (8, 115), (8, 116)] (by decide +kernel)
set_option maxRecDepth 20000 in
theorem wsL_in_r23 : ∀ w ∈ wsL_law0_r23, w ∈ lw_tbl := kt_in _ [(8, 117), (8, 119), (1, 87), (8, 120), (4, 136), (4, 137), (4, 138), (4, 139), (4, 140), (4, 141), (4, 142), (8, 121), (8, 122), (8, 123), (8, 124), (8, 125), (8, 127), (1, 88), (8, 128), (8, 135), (8, 129), (8, 130), (8, 131), (8, 132)] (by decide +kernel)
set_option maxRecDepth 20000 in
theorem wsL_in_r24 : ∀ w ∈ wsL_law0_r24, w ∈ lw_tbl := kt_in _ [(8, 133), (8, 134), (8, 136), (8, 138), (1, 89), (8, 139), (4, 143), (4, 144), (4, 145), (4, 146), (4, 147), (4, 148), (4, 149), (8, 140), (8, 141), (8, 142), (8, 143), (8, 144), (8, 146), (1, 90), (8, 147), (8, 148), (8, 149), (8, 150)] (by decide +kernel)
set_option maxRecDepth 20000 in
theorem wsL_in_r25 : ∀ w ∈ wsL_law0_r25, w ∈ lw_tbl := kt_in _ [(4, 150), (4, 151), (4, 152), (4, 153), (4, 154), (4, 155), (4, 156), (8, 151), (8, 152), (8, 153), (8, 154), (8, 155), (8, 157), (1, 91), (8, 158), (8, 159), (8, 161), (1, 92), (8, 162), (4, 157), (4, 158), (4, 159), (4, 160), (4, 184)] (by decide +kernel)
set_option maxRecDepth 20000 in
theorem wsL_in_r26 : ∀ w ∈ wsL_law0_r26, w ∈ lw_tbl := kt_in _ [(4, 185), (4, 186), (4, 187), (4, 189), (2, 17), (8, 163), (8, 164), (8, 165), (8, 166), (4, 202), (4, 203), (4, 204), (4, 205), (4, 206), (4, 207), (4, 208), (4, 209), (4, 217), (2, 19), (4, 210), (4, 212), (1, 44), (4, 213), (8, 167)] (by decide +kernel)
set_option maxRecDepth 20000 in
theorem wsL_in_r27 : ∀ w ∈ wsL_law0_r27, w ∈ lw_tbl := kt_in _ [(8, 168), (8, 169), (8, 170), (4, 233), (4, 234), (4, 235), (4, 236), (4, 237), (4, 238), (4, 239), (5, 0), (5, 5), (1, 45), (5, 6), (8, 171), (8, 172), (8, 173), (8, 174), (5, 8), (5, 9), (5, 10), (5, 11), (5, 12), (5, 13)] (by decide +kernel)
set_option maxRecDepth 20000 in
theorem wsL_in_r28 : ∀ w ∈ wsL_law0_r28, w ∈ lw_tbl := kt_in _ [(5, 14), (5, 16), (8, 175), (8, 176), (8, 177), (8, 178), (5, 17), (5, 18), (5, 19), (5, 20), (5, 21), (5, 22), (5, 23), (5, 26), (1, 46), (5, 27), (5, 28), (5, 30), (1, 47), (5, 31), (8, 179), (8, 180), (8, 181), (8, 182)] (by decide +kernel)
set_option maxRecDepth 20000 in
theorem wsL_in_r29 : ∀ w ∈ wsL_law0_r29, w ∈ lw_tbl := kt_in _ [(8, 183), (5, 33), (5, 34), (5, 35), (5, 36), (5, 37), (5, 38), (5, 39), (8, 184), (8, 185), (8, 186), (8, 187), (5, 40), (5, 41), (5, 42), (5, 43), (5, 44), (5, 45), (5, 46), (8, 188), (8, 189), (8, 190), (8, 191), (5, 47)] (by decide +kernel)
set_option maxRecDepth 20000 in
theorem wsL_in_r30 : ∀ w ∈ wsL_law0_r30, w ∈ lw_tbl := kt_in _ [(5, 48), (5, 49), (5, 50), (5, 51), (5, 52), (5, 53), (8, 192), (8, 193), (8, 194), (8, 195), (5, 54), (5, 55), (5, 56), (5, 57), (5, 58), (5, 59), (5, 60), (5, 61), (5, 62), (5, 63), (5, 64), (5, 66), (5, 68), (8, 196)] (by decide +kernel)
set_option maxRecDepth 20000 in
theorem wsL_in_r31 : ∀ w ∈ wsL_law0_r31, w ∈ lw_tbl := kt_in _ [(8, 197), (8, 198), (8, 199), (5, 69), (5, 70), (5, 71), (5, 72), (5, 73), (5, 74), (5, 75), (5, 76), (5, 77), (5, 79), (1, 48), (5, 80), (5, 81), (2, 20), (8, 200), (8, 201), (8, 202), (8, 203), (8, 204), (8, 206), (1, 93)] (by decide +kernel)
set_option maxRecDepth 20000 in
theorem wsL_in_r32 : ∀ w ∈ wsL_law0_r32, w ∈ lw_tbl := kt_in _ [(8, 207), (5, 99), (5, 100), (5, 101), (5, 102), (5, 103), (5, 104), (5, 105), (5, 108), (1, 49), (5, 109), (5, 110), (8, 208), (8, 209), (8, 210), (8, 211), (5, 111), (5, 112), (5, 113), (5, 114), (5, 115), (5, 116), (5, 117), (8, 212)] (by decide +kernel)
set_option maxRecDepth 20000 in
theorem wsL_in_r33 : ∀ w ∈ wsL_law0_r33, w ∈ lw_tbl := kt_in _ [(8, 213), (8, 214), (8, 215), (5, 120), (5, 121), (5, 122), (5, 123), (5, 124), (5, 125), (5, 126), (5, 127), (8, 216), (8, 217), (8, 218), (8, 219), (5, 128), (5, 129), (5, 130), (5, 131), (5, 132), (5, 133), (5, 134), (5, 137), (1, 50)] (by decide +kernel)
set_option maxRecDepth 20000 in
theorem wsL_in_r34 : ∀ w ∈ wsL_law0_r34, w ∈ lw_tbl := kt_in _ [(5, 138), (5, 139), (5, 141), (1, 51), (5, 142), (8, 220), (8, 221), (8, 222), (8, 223), (5, 144), (5, 145), (5, 146), (5, 147), (5, 148), (5, 149), (5, 150), (5, 151), (5, 152), (2, 21), (8, 224), (8, 225), (8, 226), (8, 227), (7, 149)] (by decide +kernel)
set_option maxRecDepth 20000 in
theorem wsL_in_r35 : ∀ w ∈ wsL_law0_r35, w ∈ lw_tbl := kt_in _ [(5, 168), (5, 169), (5, 170), (5, 171), (5, 172), (5, 173), (5, 174), (5, 177), (1, 52), (5, 178), (2, 181), (2, 179), (5, 179), (5, 181), (1, 53), (5, 182), (2, 183), (5, 183), (5, 185), (1, 54), (5, 186), (5, 187), (5, 188), (5, 189)] (by decide +kernel)
set_option maxRecDepth 20000 in
theorem wsL_in_r36 : ∀ w ∈ wsL_law0_r36, w ∈ lw_tbl := kt_in _ [(5, 195), (5, 197), (1, 55), (5, 198), (5, 199), (5, 200), (5, 201), (2, 8), (5, 202), (6, 234), (5, 203), (5, 204), (5, 205), (5, 206), (5, 207), (6, 235), (5, 208), (5, 209), (5, 210), (5, 211), (5, 212), (5, 213), (5, 214), (5, 215)] (by decide +kernel)
set_option maxRecDepth 20000 in
theorem wsL_in_r37 : ∀ w ∈ wsL_law0_r37, w ∈ lw_tbl := kt_in _ [(5, 216), (5, 217), (2, 22), (5, 218), (5, 219), (5, 220), (5, 221), (5, 222), (5, 224), (5, 225), (2, 23), (5, 226), (5, 227), (5, 228), (5, 229), (5, 230), (5, 231), (5, 232), (5, 233), (5, 234), (5, 235), (5, 236), (5, 237), (5, 238)] (by decide +kernel)
set_option maxRecDepth 20000 in
theorem wsL_in_r38 : ∀ w ∈ wsL_law0_r38, w ∈ lw_tbl := kt_in _ [(5, 239), (6, 0), (6, 2), (6, 4), (6, 6), (6, 7), (6, 8), (6, 9), (6, 11), (1, 56), (6, 12), (6, 13), (6, 15), (1, 57), (6, 16), (6, 20), (1, 58), (6, 21), (8, 228), (8, 229), (8, 230), (8, 231), (7, 150), (8, 232)] (by decide +kernel)
set_option maxRecDepth 20000 in
theorem wsL_in_r39 : ∀ w ∈ wsL_law0_r39, w ∈ lw_tbl := kt_in _ [(8, 234), (1, 94), (8, 235), (7, 151), (8, 236), (8, 238), (1, 95), (8, 239), (9, 0), (9, 2), (1, 96), (9, 3), (9, 4), (9, 6), (1, 97), (9, 7), (9, 8), (9, 10), (1, 98), (9, 11), (3, 17), (3, 18), (3, 19), (3, 20)] (by decide +kernel)
set_option maxRecDepth 20000 in
theorem wsL_in_r40 : ∀ w ∈ wsL_law0_r40, w ∈ lw_tbl := kt_in _ [(9, 12), (9, 13), (9, 14), (9, 15), (6, 24), (6, 25), (6, 26), (6, 27), (6, 28), (6, 29), (6, 30), (9, 16), (9, 17), (9, 18), (9, 19), (6, 33), (6, 34), (6, 35), (6, 36), (6, 37), (6, 38), (6, 39), (6, 40), (6, 42)] (by decide +kernel)
set_option maxRecDepth 20000 in
theorem wsL_in_r41 : ∀ w ∈ wsL_law0_r41, w ∈ lw_tbl := kt_in _ [(1, 59), (6, 43), (6, 44), (6, 45), (6, 46), (6, 47), (6, 48), (9, 59), (2, 230), (6, 49), (6, 50), (6, 51), (6, 52), (2, 24), (2, 221), (2, 219), (6, 70), (9, 62), (0, 1), (6, 72), (6, 73), (6, 74), (9, 63), (0, 2)] (by decide +kernel)
set_option maxRecDepth 20000 in
theorem wsL_in_r42 : ∀ w ∈ wsL_law0_r42, w ∈ lw_tbl := kt_in _ [(6, 76), (6, 77), (6, 88), (6, 78), (6, 79), (2, 25), (6, 80), (6, 81), (6, 82), (6, 83), (6, 84), (6, 85), (6, 86), (6, 87), (6, 89), (6, 90), (2, 26), (6, 91), (6, 92), (6, 93), (6, 94), (6, 95), (6, 96), (6, 98)] (by decide +kernel)
set_option maxRecDepth 20000 in
theorem wsL_in_r43 : ∀ w ∈ wsL_law0_r43, w ∈ lw_tbl := kt_in _ [(6, 99), (6, 100), (6, 101), (6, 103), (6, 104), (6, 102), (6, 105), (7, 9), (7, 10), (7, 11), (7, 12), (7, 13), (7, 14), (7, 15), (7, 16), (7, 17), (6, 217), (7, 21), (4, 161), (2, 18), (7, 31), (7, 32), (7, 33), (7, 34)] (by decide +kernel)
set_option maxRecDepth 20000 in
theorem wsL_in_r44 : ∀ w ∈ wsL_law0_r44, w ∈ lw_tbl := kt_in _ [(7, 35), (6, 202), (9, 68), (6, 203), (6, 204), (6, 200), (6, 199), (6, 205), (7, 36), (7, 37), (7, 38), (7, 39), (7, 40), (9, 69), (7, 41), (7, 42), (7, 43), (7, 44), (7, 45), (6, 131), (9, 66), (0, 5), (6, 133), (6, 134)] (by decide +kernel)
set_option maxRecDepth 20000 in
theorem wsL_in_r45 : ∀ w ∈ wsL_law0_r45, w ∈ lw_tbl := kt_in _ [(6, 135), (6, 136), (6, 137), (6, 138), (6, 139), (6, 140), (6, 141), (6, 142), (6, 143), (6, 144), (6, 145), (6, 146), (6, 147), (6, 148), (6, 149), (6, 118), (6, 119), (6, 120), (7, 46), (7, 47), (7, 48), (7, 49), (6, 157), (6, 158)] (by decide +kernel)
set_option maxRecDepth 20000 in
theorem wsL_in_r46 : ∀ w ∈ wsL_law0_r46, w ∈ lw_tbl := kt_in _ [(6, 159), (6, 160), (9, 67), (6, 161), (6, 162), (6, 163), (6, 164), (2, 28), (6, 165), (6, 166), (6, 167), (6, 168), (6, 169), (6, 171), (6, 173), (6, 174), (6, 175), (6, 109), (6, 110), (6, 111), (6, 112), (6, 113), (6, 114), (6, 115)] (by decide +kernel)
set_option maxRecDepth 20000 in
theorem wsL_in_r47 : ∀ w ∈ wsL_law0_r47, w ∈ lw_tbl := kt_in _ [(6, 116), (6, 117), (6, 176), (6, 177), (6, 178), (6, 179), (6, 180), (9, 20), (9, 21), (9, 22), (9, 23), (7, 147), (9, 24), (9, 26), (1, 99), (9, 27), (7, 50), (7, 51), (7, 52), (7, 53), (7, 54), (7, 55), (7, 56), (7, 58)] (by decide +kernel)
set_option maxRecDepth 20000 in
theorem wsL_in_r48 : ∀ w ∈ wsL_law0_r48, w ∈ lw_tbl := kt_in _ [(7, 59), (7, 60), (7, 61), (7, 62), (9, 70), (7, 63), (7, 64), (7, 65), (7, 66), (7, 67), (9, 28), (9, 29), (9, 30), (9, 31), (7, 68), (7, 69), (7, 70), (7, 71), (7, 85), (7, 86), (7, 87), (7, 88), (7, 89), (2, 29)] (by decide +kernel)
set_option maxRecDepth 20000 in
theorem wsL_in_r49 : ∀ w ∈ wsL_law0_r49, w ∈ lw_tbl := kt_in _ [(9, 32), (9, 33), (9, 34), (9, 35), (7, 93), (7, 94), (7, 95), (7, 96), (7, 97), (7, 98), (7, 99), (9, 36), (9, 37), (9, 38), (9, 39), (7, 101), (7, 102), (7, 103), (7, 104), (7, 105), (7, 106), (7, 107), (7, 108), (7, 111)] (by decide +kernel)
set_option maxRecDepth 20000 in
theorem wsL_in_r50 : ∀ w ∈ wsL_law0_r50, w ∈ lw_tbl := kt_in _ [(1, 60), (7, 112), (9, 40), (9, 41), (9, 42), (9, 43), (7, 114), (7, 115), (7, 116), (7, 117), (7, 118), (7, 119), (7, 120), (7, 124), (1, 61), (7, 125), (9, 44), (9, 45), (9, 46), (9, 47), (3, 21), (3, 22), (3, 23), (3, 24)] (by decide +kernel)
set_option maxRecDepth 20000 in
theorem wsL_in_r51 : ∀ w ∈ wsL_law0_r51, w ∈ lw_tbl := kt_in _ [(9, 48), (9, 49), (9, 50), (9, 51), (7, 145), (7, 126), (7, 127), (7, 128), (7, 129), (7, 130), (7, 131), (7, 132), (9, 52), (9, 53), (9, 54), (9, 55)] (by decide +kernel)
theorem wsL_in_wsX40 : ∀ w ∈ wsX40, w ∈ lw_tbl := by decide +kernel
theorem wsL_in_wsX50 : ∀ w ∈ wsX50, w ∈ lw_tbl := by decide +kernel
theorem wsL_in_wsX00 : ∀ w ∈ wsX00, w ∈ lw_tbl := by decide +kernel
theorem wsL_in_wsX20 : ∀ w ∈ wsX20, w ∈ lw_tbl := by decide +kernel
theorem wsL_in_wsX30 : ∀ w ∈ wsX30, w ∈ lw_tbl := by decide +kernel
theorem wsL_in_wsX10 : ∀ w ∈ wsX10, w ∈ lw_tbl := by decide +kernel
theorem wsL_in_wsJ40 : ∀ w ∈ wsJ40, w ∈ lw_tbl := by decide +kernel
theorem wsL_in_wsJ00 : ∀ w ∈ wsJ00, w ∈ lw_tbl := by decide +kernel
theorem wsL_in_wsJx7c7330 : ∀ w ∈ wsJx7c7330, w ∈ lw_tbl := by decide +kernel
theorem wsL_in_wsJx000600 : ∀ w ∈ wsJx000600, w ∈ lw_tbl := by decide +kernel
theorem wsL_law_in0 : ∀ w ∈ wsL_law0, w ∈ lw_tbl := fun w h => (List.mem_append.mp h).elim (fun h => (List.mem_append.mp h).elim (fun h => (List.mem_append.mp h).elim (fun h => (List.mem_append.mp h).elim (fun h => (List.mem_append.mp h).elim (fun h => (List.mem_append.mp h).elim (fun h => (List.mem_append.mp h).elim (fun h => (List.mem_append.mp h).elim (fun h => (List.mem_append.mp h).elim (fun h => (List.mem_append.mp h).elim (fun h => (List.mem_append.mp h).elim (fun h => (List.mem_append.mp h).elim (fun h => wsL_in_r1 w h) (fun h => (List.mem_append.mp h).elim (fun h => wsL_in_r2 w h) (fun h => (List.mem_append.mp h).elim (fun h => wsL_in_r3 w h) (fun h => (List.mem_append.mp h).elim (fun h => wsL_in_r4 w h) (fun h => (List.mem_append.mp h).elim (fun h => wsL_in_r5 w h) (fun h => (List.mem_append.mp h).elim (fun h => wsL_in_r6 w h) (fun h => (List.mem_append.mp h).elim (fun h => wsL_in_r7 w h) (fun h => (List.mem_append.mp h).elim (fun h => wsL_in_r8 w h) (fun h => (List.mem_append.mp h).elim (fun h => wsL_in_r9 w h) (fun h => (List.mem_append.mp h).elim (fun h => wsL_in_r10 w h) (fun h => (List.mem_append.mp h).elim (fun h => wsL_in_r11 w h) (fun h => (List.mem_append.mp h).elim (fun h => wsL_in_r12 w h) (fun h => (List.mem_append.mp h).elim (fun h => wsL_in_r13 w h) (fun h => (List.mem_append.mp h).elim (fun h => wsL_in_r14 w h) (fun h => (List.mem_append.mp h).elim (fun h => wsL_in_r15 w h) (fun h => (List.mem_append.mp h).elim (fun h => wsL_in_r16 w h) (fun h => (List.mem_append.mp h).elim (fun h => wsL_in_r17 w h) (fun h => (List.mem_append.mp h).elim (fun h => wsL_in_r18 w h) (fun h => (List.mem_append.mp h).elim (fun h => wsL_in_r19 w h) (fun h => (List.mem_append.mp h).elim (fun h => wsL_in_r20 w h) (fun h => (List.mem_append.mp h).elim (fun h => wsL_in_r21 w h) (fun h => (List.mem_append.mp h).elim (fun h => wsL_in_r22 w h) (fun h => (List.mem_append.mp h).elim (fun h => wsL_in_r23 w h) (fun h => (List.mem_append.mp h).elim (fun h => wsL_in_r24 w h) (fun h => (List.mem_append.mp h).elim (fun h => wsL_in_r25 w h) (fun h => (List.mem_append.mp h).elim (fun h => wsL_in_r26 w h) (fun h => (List.mem_append.mp h).elim (fun h => wsL_in_r27 w h) (fun h => (List.mem_append.mp h).elim (fun h => wsL_in_r28 w h) (fun h => (List.mem_append.mp h).elim (fun h => wsL_in_r29 w h) (fun h => (List.mem_append.mp h).elim (fun h => wsL_in_r30 w h) (fun h => (List.mem_append.mp h).elim (fun h => wsL_in_r31 w h) (fun h => (List.mem_append.mp h).elim (fun h => wsL_in_r32 w h) (fun h => (List.mem_append.mp h).elim (fun h => wsL_in_r33 w h) (fun h => (List.mem_append.mp h).elim (fun h => wsL_in_r34 w h) (fun h => (List.mem_append.mp h).elim (fun h => wsL_in_r35 w h) (fun h => (List.mem_append.mp h).elim (fun h => wsL_in_r36 w h) (fun h => (List.mem_append.mp h).elim (fun h => wsL_in_r37 w h) (fun h => (List.mem_append.mp h).elim (fun h => wsL_in_r38 w h) (fun h => (List.mem_append.mp h).elim (fun h => wsL_in_r39 w h) (fun h => (List.mem_append.mp h).elim (fun h => wsL_in_r40 w h) (fun h => (List.mem_append.mp h).elim (fun h => wsL_in_r41 w h) (fun h => (List.mem_append.mp h).elim (fun h => wsL_in_r42 w h) (fun h => (List.mem_append.mp h).elim (fun h => wsL_in_r43 w h) (fun h => (List.mem_append.mp h).elim (fun h => wsL_in_r44 w h) (fun h => (List.mem_append.mp h).elim (fun h => wsL_in_r45 w h) (fun h => (List.mem_append.mp h).elim (fun h => wsL_in_r46 w h) (fun h => (List.mem_append.mp h).elim (fun h => wsL_in_r47 w h) (fun h => (List.mem_append.mp h).elim (fun h => wsL_in_r48 w h) (fun h => (List.mem_append.mp h).elim (fun h => wsL_in_r49 w h) (fun h => (List.mem_append.mp h).elim (fun h => wsL_in_r50 w h) (fun h => wsL_in_r51 w h))))))))))))))))))))))))))))))))))))))))))))))))))) (fun h => wsL_in_wsX40 w h)) (fun h => wsL_in_wsX50 w h)) (fun h => wsL_in_wsX00 w h)) (fun h => wsL_in_wsX20 w h)) (fun h => wsL_in_wsX30 w h)) (fun h => wsL_in_wsX10 w h)) (fun h => wsL_in_wsJ40 w h)) (fun h => wsL_in_wsJ00 w h)) (fun h => wsL_in_wsJx7c7330 w h)) (fun h => wsL_in_wsJx000600 w h)) (fun h => absurd h List.not_mem_nil)
theorem wsL_law_x0 : ∀ w ∈ (vx_atM "java/lang/ArrayIndexOutOfBoundsException" ["java/lang/IndexOutOfBoundsException", "java/lang/RuntimeException", "java/lang/Exception"]).filter goodWord, w ∈ lw_tbl := by decide +kernel
theorem wsL_law_x1 : ∀ w ∈ (vx_atS RX4 211 "java/lang/UnsupportedOperationException" ["java/lang/RuntimeException", "java/lang/Exception"]).filter goodWord, w ∈ lw_tbl := by decide +kernel
theorem wsL_law_x2 : ∀ w ∈ (vx_atS RX4 67 "java/lang/IndexOutOfBoundsException" ["java/lang/RuntimeException", "java/lang/Exception"]).filter goodWord, w ∈ lw_tbl := by decide +kernel
theorem wsL_law_x3 : ∀ w ∈ (vx_atS RX4 104 "java/lang/IllegalArgumentException" ["java/lang/RuntimeException", "java/lang/Exception"]).filter goodWord, w ∈ lw_tbl := by decide +kernel
theorem wsL_law_x4 : ∀ w ∈ nse_at.filter goodWord, w ∈ lw_tbl := by decide +kernel
theorem wsL_law_x5 : ∀ w ∈ (vx_atS RX4 190 "java/lang/IllegalStateException" ["java/lang/RuntimeException", "java/lang/Exception"]).filter goodWord, w ∈ lw_tbl := by decide +kernel
theorem wsL_law_x6 : ∀ w ∈ (vx_atS RX4 243 "java/lang/ArithmeticException" ["java/lang/RuntimeException", "java/lang/Exception"]).filter goodWord, w ∈ lw_tbl := by decide +kernel
theorem wsL_law_in : ∀ w ∈ wsL_law, w ∈ lw_tbl := fun w h => (List.mem_append.mp h).elim (fun h => (List.mem_append.mp h).elim (fun h => (List.mem_append.mp h).elim (fun h => (List.mem_append.mp h).elim (fun h => (List.mem_append.mp h).elim (fun h => (List.mem_append.mp h).elim (fun h => (List.mem_append.mp h).elim (fun h => wsL_law_in0 w h) (fun h => wsL_law_x0 w h)) (fun h => wsL_law_x1 w h)) (fun h => wsL_law_x2 w h)) (fun h => wsL_law_x3 w h)) (fun h => wsL_law_x4 w h)) (fun h => wsL_law_x5 w h)) (fun h => wsL_law_x6 w h)
theorem inlX0 : ∀ w ∈ wsX00, w ∈ wsL_law := fun _ h => List.mem_append_left _ (List.mem_append_left _ (List.mem_append_left _ (List.mem_append_left _ (List.mem_append_left _ (List.mem_append_left _ (List.mem_append_left _ (List.mem_append_left _ (List.mem_append_left _ (List.mem_append_left _ (List.mem_append_left _ (List.mem_append_left _ (List.mem_append_left _ (List.mem_append_left _ (List.mem_append_left _ (List.mem_append_right _ h)))))))))))))))
theorem inX0 : ∀ w ∈ wsX00, w ∈ lw_tbl := fun w h => wsL_law_in w (inlX0 w h)
theorem inlX1 : ∀ w ∈ wsX10, w ∈ wsL_law := fun _ h => List.mem_append_left _ (List.mem_append_left _ (List.mem_append_left _ (List.mem_append_left _ (List.mem_append_left _ (List.mem_append_left _ (List.mem_append_left _ (List.mem_append_left _ (List.mem_append_left _ (List.mem_append_left _ (List.mem_append_left _ (List.mem_append_left _ (List.mem_append_right _ h))))))))))))
theorem inX1 : ∀ w ∈ wsX10, w ∈ lw_tbl := fun w h => wsL_law_in w (inlX1 w h)
theorem inlX2 : ∀ w ∈ wsX20, w ∈ wsL_law := fun _ h => List.mem_append_left _ (List.mem_append_left _ (List.mem_append_left _ (List.mem_append_left _ (List.mem_append_left _ (List.mem_append_left _ (List.mem_append_left _ (List.mem_append_left _ (List.mem_append_left _ (List.mem_append_left _ (List.mem_append_left _ (List.mem_append_left _ (List.mem_append_left _ (List.mem_append_left _ (List.mem_append_right _ h))))))))))))))
theorem inX2 : ∀ w ∈ wsX20, w ∈ lw_tbl := fun w h => wsL_law_in w (inlX2 w h)
theorem inlX3 : ∀ w ∈ wsX30, w ∈ wsL_law := fun _ h => List.mem_append_left _ (List.mem_append_left _ (List.mem_append_left _ (List.mem_append_left _ (List.mem_append_left _ (List.mem_append_left _ (List.mem_append_left _ (List.mem_append_left _ (List.mem_append_left _ (List.mem_append_left _ (List.mem_append_left _ (List.mem_append_left _ (List.mem_append_left _ (List.mem_append_right _ h)))))))))))))
theorem inX3 : ∀ w ∈ wsX30, w ∈ lw_tbl := fun w h => wsL_law_in w (inlX3 w h)
theorem inlX4 : ∀ w ∈ wsX40, w ∈ wsL_law := fun _ h => List.mem_append_left _ (List.mem_append_left _ (List.mem_append_left _ (List.mem_append_left _ (List.mem_append_left _ (List.mem_append_left _ (List.mem_append_left _ (List.mem_append_left _ (List.mem_append_left _ (List.mem_append_left _ (List.mem_append_left _ (List.mem_append_left _ (List.mem_append_left _ (List.mem_append_left _ (List.mem_append_left _ (List.mem_append_left _ (List.mem_append_left _ (List.mem_append_right _ h)))))))))))))))))
theorem inX4 : ∀ w ∈ wsX40, w ∈ lw_tbl := fun w h => wsL_law_in w (inlX4 w h)
theorem inlX5 : ∀ w ∈ wsX50, w ∈ wsL_law := fun _ h => List.mem_append_left _ (List.mem_append_left _ (List.mem_append_left _ (List.mem_append_left _ (List.mem_append_left _ (List.mem_append_left _ (List.mem_append_left _ (List.mem_append_left _ (List.mem_append_left _ (List.mem_append_left _ (List.mem_append_left _ (List.mem_append_left _ (List.mem_append_left _ (List.mem_append_left _ (List.mem_append_left _ (List.mem_append_left _ (List.mem_append_right _ h))))))))))))))))
theorem inX5 : ∀ w ∈ wsX50, w ∈ lw_tbl := fun w h => wsL_law_in w (inlX5 w h)
theorem inJ4 : ∀ w ∈ wsJ40, w ∈ lw_tbl := wsL_in_wsJ40
theorem inJ0 : ∀ w ∈ wsJ00, w ∈ lw_tbl := wsL_in_wsJ00
theorem inJx7c733 : ∀ w ∈ wsJx7c7330, w ∈ lw_tbl := wsL_in_wsJx7c7330
theorem inJx00060 : ∀ w ∈ wsJx000600, w ∈ lw_tbl := wsL_in_wsJx000600

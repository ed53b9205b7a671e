-- printed rows of Lwords
-- the law's words: where each lies in the tables
def zpart : Nat → List Cond
  | 0 => k2_sels lw_privs
  | 1 => tables_1_1
  | 2 => tables_1_2
  | 3 => tables_1_3
  | 4 => tables_1_4
  | 5 => tables_1_5
  | 6 => tables_1_6
  | 7 => tables_1_7
  | _ => []
theorem zpart_sub : ∀ (n : Nat) (w : Cond), w ∈ zpart n → w ∈ lw_tbl := by
  intro n w h
  unfold lw_tbl tables_1
  simp only [List.mem_append]
  match n, h with
  | 0, h => exact Or.inl h
  | 1, h => exact Or.inr (Or.inl h)
  | 2, h => exact Or.inr (Or.inr (Or.inl h))
  | 3, h => exact Or.inr (Or.inr (Or.inr (Or.inl h)))
  | 4, h => exact Or.inr (Or.inr (Or.inr (Or.inr (Or.inl h))))
  | 5, h => exact Or.inr (Or.inr (Or.inr (Or.inr (Or.inr (Or.inl h)))))
  | 6, h => exact Or.inr (Or.inr (Or.inr (Or.inr (Or.inr (Or.inr (Or.inl h))))))
  | 7, h => exact Or.inr (Or.inr (Or.inr (Or.inr (Or.inr (Or.inr (Or.inr h))))))
  | n + 8, h => cases h
theorem zin_parts {r : List Cond} (ps : List (Nat × Nat)) (h : r = ps.filterMap (fun q => (zpart q.1)[q.2]?)) : ∀ w ∈ r, w ∈ lw_tbl := by
  intro w hw
  rw [h] at hw
  obtain ⟨q, -, hq⟩ := List.mem_filterMap.mp hw
  exact zpart_sub q.1 w (List.mem_iff_getElem?.mpr ⟨q.2, hq⟩)
theorem zap {a b : List Cond} {P : Cond → Prop} (ha : ∀ w ∈ a, P w) (hb : ∀ w ∈ b, P w) : ∀ w ∈ a ++ b, P w := fun w h => (List.mem_append.mp h).elim (ha w) (hb w)
set_option maxRecDepth 100000 in
theorem zlw_wsL_law0_r1 : ∀ w ∈ wsL_law0_r1, w ∈ lw_tbl := zin_parts [(1, 29), (1, 30), (1, 1), (5, 42), (5, 43), (1, 11), (1, 76), (7, 151), (1, 31), (1, 32), (1, 33), (1, 34), (1, 35), (1, 36), (1, 37), (1, 38), (1, 2), (1, 218), (1, 48), (1, 49), (1, 3), (1, 219), (1, 114), (1, 115)] (by decide +kernel)
set_option maxRecDepth 100000 in
theorem zlw_wsL_law0_r2 : ∀ w ∈ wsL_law0_r2, w ∈ lw_tbl := zin_parts [(1, 6), (1, 220), (1, 126), (1, 127), (1, 7), (1, 221), (1, 149), (1, 150), (1, 8), (1, 222), (1, 163), (1, 164), (1, 9), (1, 223), (1, 180), (1, 181), (1, 10), (1, 224), (1, 225), (1, 40), (1, 41), (1, 42), (1, 43), (1, 51)] (by decide +kernel)
set_option maxRecDepth 100000 in
theorem zlw_wsL_law0_r3 : ∀ w ∈ wsL_law0_r3, w ∈ lw_tbl := zin_parts [(1, 52), (1, 53), (1, 104), (1, 54), (1, 55), (1, 4), (1, 105), (1, 106), (1, 57), (1, 58), (1, 59), (1, 60), (1, 61), (1, 5), (1, 77), (1, 82), (1, 83), (1, 84), (1, 86), (1, 89), (1, 63), (1, 64), (1, 65), (1, 66)] (by decide +kernel)
set_option maxRecDepth 100000 in
theorem zlw_wsL_law0_r4 : ∀ w ∈ wsL_law0_r4, w ∈ lw_tbl := zin_parts [(1, 67), (1, 68), (1, 117), (1, 118), (1, 119), (1, 120), (1, 122), (1, 129), (1, 130), (1, 131), (1, 148), (1, 134), (1, 132), (1, 135), (1, 136), (1, 137), (1, 152), (1, 153), (1, 154), (1, 155), (1, 156), (1, 166), (1, 167), (1, 168)] (by decide +kernel)
set_option maxRecDepth 100000 in
theorem zlw_wsL_law0_r5 : ∀ w ∈ wsL_law0_r5, w ∈ lw_tbl := zin_parts [(1, 169), (1, 170), (1, 171), (1, 183), (1, 184), (1, 185), (1, 190), (1, 191), (1, 217), (1, 192), (1, 186), (1, 193), (1, 188), (1, 194), (1, 195), (1, 196), (1, 198), (5, 44), (5, 45), (5, 46), (5, 47), (5, 75), (5, 76), (5, 48)] (by decide +kernel)
set_option maxRecDepth 100000 in
theorem zlw_wsL_law0_r6 : ∀ w ∈ wsL_law0_r6, w ∈ lw_tbl := zin_parts [(5, 49), (1, 14), (5, 78), (5, 79), (5, 81), (5, 83), (5, 84), (5, 74), (5, 50), (5, 51), (5, 52), (5, 60), (5, 62), (5, 53), (5, 54), (1, 13), (5, 55), (5, 64), (5, 56), (5, 57), (1, 12), (5, 58), (5, 59), (2, 70)] (by decide +kernel)
set_option maxRecDepth 100000 in
theorem zlw_wsL_law0_r7 : ∀ w ∈ wsL_law0_r7, w ∈ lw_tbl := zin_parts [(2, 71), (1, 0), (2, 72), (2, 73), (2, 74), (2, 75), (2, 76), (2, 77), (2, 78), (1, 44), (2, 79), (2, 80), (2, 81), (2, 82), (2, 83), (2, 84), (2, 85), (1, 18), (5, 111), (5, 112), (5, 113), (5, 114), (5, 115), (5, 116)] (by decide +kernel)
set_option maxRecDepth 100000 in
theorem zlw_wsL_law0_r8 : ∀ w ∈ wsL_law0_r8, w ∈ lw_tbl := zin_parts [(5, 117), (5, 118), (5, 119), (5, 121), (0, 20), (5, 122), (5, 38), (5, 39), (5, 40), (5, 41), (2, 3), (2, 4), (2, 5), (2, 6), (5, 123), (5, 124), (5, 125), (5, 126), (2, 153), (2, 154), (2, 155), (2, 156), (2, 157), (2, 158)] (by decide +kernel)
set_option maxRecDepth 100000 in
theorem zlw_wsL_law0_r9 : ∀ w ∈ wsL_law0_r9, w ∈ lw_tbl := zin_parts [(2, 159), (2, 160), (2, 161), (2, 162), (2, 163), (2, 164), (2, 165), (2, 166), (2, 167), (2, 168), (2, 169), (2, 170), (1, 19), (2, 171), (2, 172), (2, 173), (2, 174), (2, 175), (2, 177), (0, 1), (2, 178), (2, 180), (2, 181), (2, 182)] (by decide +kernel)
set_option maxRecDepth 100000 in
theorem zlw_wsL_law0_r10 : ∀ w ∈ wsL_law0_r10, w ∈ lw_tbl := zin_parts [(1, 20), (2, 198), (2, 200), (0, 2), (2, 201), (2, 202), (5, 127), (5, 128), (5, 129), (5, 130), (5, 131), (5, 132), (5, 133), (5, 153), (5, 134), (5, 135), (1, 21), (5, 136), (5, 137), (5, 138), (5, 139), (5, 140), (5, 141), (5, 142)] (by decide +kernel)
set_option maxRecDepth 100000 in
theorem zlw_wsL_law0_r11 : ∀ w ∈ wsL_law0_r11, w ∈ lw_tbl := zin_parts [(5, 143), (5, 144), (5, 145), (5, 147), (5, 154), (5, 155), (5, 156), (5, 157), (5, 158), (5, 159), (5, 160), (5, 161), (5, 163), (0, 21), (5, 164), (5, 165), (5, 167), (0, 22), (5, 168), (5, 223), (5, 169), (5, 170), (5, 171), (5, 172)] (by decide +kernel)
set_option maxRecDepth 100000 in
theorem zlw_wsL_law0_r12 : ∀ w ∈ wsL_law0_r12, w ∈ lw_tbl := zin_parts [(5, 173), (5, 174), (5, 175), (5, 176), (5, 177), (5, 178), (5, 179), (5, 180), (5, 181), (5, 182), (5, 183), (5, 185), (0, 23), (5, 186), (5, 187), (5, 188), (5, 189), (5, 190), (5, 191), (5, 192), (5, 193), (5, 194), (5, 195), (3, 22)] (by decide +kernel)
set_option maxRecDepth 100000 in
theorem zlw_wsL_law0_r13 : ∀ w ∈ wsL_law0_r13, w ∈ lw_tbl := zin_parts [(3, 23), (5, 196), (5, 197), (5, 198), (5, 200), (3, 76), (3, 77), (5, 199), (5, 201), (5, 202), (5, 203), (5, 204), (5, 205), (1, 19), (5, 206), (5, 207), (5, 208), (5, 209), (5, 211), (5, 212), (5, 213), (5, 214), (5, 215), (5, 216)] (by decide +kernel)
set_option maxRecDepth 100000 in
theorem zlw_wsL_law0_r14 : ∀ w ∈ wsL_law0_r14, w ∈ lw_tbl := zin_parts [(5, 217), (5, 218), (5, 219), (5, 220), (5, 221), (5, 222), (5, 224), (5, 225), (5, 226), (5, 227), (5, 228), (5, 229), (5, 231), (0, 24), (5, 232), (5, 233), (5, 234), (5, 235), (5, 236), (2, 203), (2, 204), (2, 205), (2, 206), (2, 207)] (by decide +kernel)
set_option maxRecDepth 100000 in
theorem zlw_wsL_law0_r15 : ∀ w ∈ wsL_law0_r15, w ∈ lw_tbl := zin_parts [(2, 208), (2, 209), (2, 210), (2, 211), (2, 212), (2, 213), (2, 214), (2, 215), (2, 216), (2, 217), (2, 218), (2, 221), (2, 222), (2, 223), (2, 224), (5, 237), (5, 238), (5, 239), (6, 0), (6, 1), (6, 2), (6, 3), (6, 4), (6, 5)] (by decide +kernel)
set_option maxRecDepth 100000 in
theorem zlw_wsL_law0_r16 : ∀ w ∈ wsL_law0_r16, w ∈ lw_tbl := zin_parts [(6, 6), (2, 225), (2, 226), (2, 227), (2, 228), (2, 229), (2, 230), (2, 231), (2, 232), (2, 233), (2, 234), (2, 11), (2, 12), (2, 13), (2, 14), (6, 7), (6, 8), (6, 9), (6, 10), (6, 11), (6, 12), (6, 13), (6, 14), (6, 16)] (by decide +kernel)
set_option maxRecDepth 100000 in
theorem zlw_wsL_law0_r17 : ∀ w ∈ wsL_law0_r17, w ∈ lw_tbl := zin_parts [(0, 25), (6, 17), (2, 7), (2, 8), (2, 9), (2, 10), (2, 15), (2, 16), (2, 17), (2, 18), (2, 19), (2, 20), (1, 22), (2, 21), (6, 18), (6, 19), (6, 20), (6, 21), (2, 235), (2, 236), (2, 237), (2, 238), (2, 239), (3, 0)] (by decide +kernel)
set_option maxRecDepth 100000 in
theorem zlw_wsL_law0_r18 : ∀ w ∈ wsL_law0_r18, w ∈ lw_tbl := zin_parts [(3, 1), (6, 22), (6, 23), (6, 24), (6, 25), (3, 2), (3, 3), (3, 4), (3, 5), (3, 6), (3, 7), (3, 8), (3, 9), (3, 10), (3, 11), (3, 12), (3, 13), (3, 14), (3, 15), (3, 16), (3, 21), (1, 87), (1, 80), (3, 17)] (by decide +kernel)
set_option maxRecDepth 100000 in
theorem zlw_wsL_law0_r19 : ∀ w ∈ wsL_law0_r19, w ∈ lw_tbl := zin_parts [(3, 19), (0, 3), (3, 20), (3, 24), (3, 26), (0, 4), (3, 27), (3, 28), (3, 29), (3, 30), (3, 31), (3, 32), (3, 33), (3, 34), (3, 35), (3, 36), (3, 37), (3, 38), (3, 39), (3, 40), (3, 42), (0, 5), (3, 43), (3, 44)] (by decide +kernel)
set_option maxRecDepth 100000 in
theorem zlw_wsL_law0_r20 : ∀ w ∈ wsL_law0_r20, w ∈ lw_tbl := zin_parts [(3, 45), (3, 46), (3, 47), (3, 48), (3, 50), (0, 6), (3, 51), (3, 52), (3, 53), (3, 54), (3, 55), (3, 56), (3, 57), (3, 58), (3, 59), (3, 60), (3, 61), (3, 63), (0, 7), (3, 64), (3, 65), (3, 66), (3, 67), (3, 68)] (by decide +kernel)
set_option maxRecDepth 100000 in
theorem zlw_wsL_law0_r21 : ∀ w ∈ wsL_law0_r21, w ∈ lw_tbl := zin_parts [(3, 69), (3, 70), (3, 71), (3, 72), (3, 74), (3, 75), (3, 78), (3, 80), (3, 79), (1, 23), (3, 81), (3, 82), (3, 83), (3, 84), (3, 85), (3, 86), (3, 87), (3, 88), (3, 89), (3, 90), (3, 91), (3, 92), (3, 93), (3, 94)] (by decide +kernel)
set_option maxRecDepth 100000 in
theorem zlw_wsL_law0_r22 : ∀ w ∈ wsL_law0_r22, w ∈ lw_tbl := zin_parts [(3, 95), (3, 96), (3, 97), (3, 98), (3, 99), (3, 104), (3, 100), (3, 101), (3, 102), (3, 103), (3, 105), (3, 106), (3, 107), (3, 108), (3, 109), (3, 118), (3, 123), (3, 110), (3, 112), (0, 8), (3, 113), (3, 114), (3, 115), (3, 116)] (by decide +kernel)
set_option maxRecDepth 100000 in
theorem zlw_wsL_law0_r23 : ∀ w ∈ wsL_law0_r23, w ∈ lw_tbl := zin_parts [(3, 117), (3, 119), (3, 120), (3, 121), (3, 122), (3, 124), (3, 125), (6, 26), (6, 27), (6, 28), (6, 29), (6, 40), (6, 30), (6, 31), (6, 32), (6, 33), (6, 34), (6, 36), (0, 26), (6, 37), (6, 38), (3, 126), (3, 127), (3, 128)] (by decide +kernel)
set_option maxRecDepth 100000 in
theorem zlw_wsL_law0_r24 : ∀ w ∈ wsL_law0_r24, w ∈ lw_tbl := zin_parts [(3, 129), (3, 130), (3, 131), (3, 132), (3, 133), (3, 134), (3, 135), (3, 136), (3, 137), (6, 41), (6, 42), (6, 43), (6, 44), (2, 22), (2, 23), (2, 24), (2, 25), (2, 26), (2, 27), (2, 28), (2, 29), (6, 45), (6, 46), (6, 47)] (by decide +kernel)
set_option maxRecDepth 100000 in
theorem zlw_wsL_law0_r25 : ∀ w ∈ wsL_law0_r25, w ∈ lw_tbl := zin_parts [(6, 48), (3, 138), (3, 139), (3, 140), (3, 141), (3, 142), (3, 143), (3, 144), (3, 145), (3, 146), (3, 147), (3, 148), (3, 149), (3, 155), (3, 150), (3, 152), (0, 9), (3, 153), (3, 154), (6, 49), (6, 50), (6, 51), (6, 52), (6, 53)] (by decide +kernel)
set_option maxRecDepth 100000 in
theorem zlw_wsL_law0_r26 : ∀ w ∈ wsL_law0_r26, w ∈ lw_tbl := zin_parts [(6, 54), (6, 56), (0, 27), (6, 57), (6, 58), (6, 60), (0, 28), (6, 61), (6, 62), (6, 64), (0, 29), (6, 65), (3, 156), (3, 157), (3, 158), (3, 159), (3, 160), (3, 161), (3, 162), (3, 163), (3, 164), (3, 165), (3, 166), (3, 167)] (by decide +kernel)
set_option maxRecDepth 100000 in
theorem zlw_wsL_law0_r27 : ∀ w ∈ wsL_law0_r27, w ∈ lw_tbl := zin_parts [(3, 168), (3, 169), (3, 170), (3, 171), (3, 180), (3, 172), (3, 174), (0, 10), (3, 175), (1, 81), (3, 176), (3, 177), (3, 178), (3, 179), (3, 181), (3, 182), (3, 184), (0, 11), (3, 185), (3, 186), (3, 187), (3, 188), (3, 189), (3, 191)] (by decide +kernel)
set_option maxRecDepth 100000 in
theorem zlw_wsL_law0_r28 : ∀ w ∈ wsL_law0_r28, w ∈ lw_tbl := zin_parts [(0, 12), (3, 192), (3, 193), (3, 194), (3, 195), (3, 196), (6, 66), (6, 67), (6, 68), (6, 69), (6, 70), (6, 71), (6, 72), (1, 24), (5, 77), (6, 197), (6, 73), (6, 74), (6, 75), (6, 76), (6, 83), (6, 85), (6, 87), (6, 77)] (by decide +kernel)
set_option maxRecDepth 100000 in
theorem zlw_wsL_law0_r29 : ∀ w ∈ wsL_law0_r29, w ∈ lw_tbl := zin_parts [(6, 79), (6, 81), (6, 102), (6, 104), (0, 30), (6, 105), (6, 115), (6, 106), (6, 108), (0, 31), (6, 109), (6, 110), (6, 111), (6, 112), (6, 113), (6, 114), (6, 117), (6, 121), (6, 123), (6, 125), (5, 65), (5, 66), (5, 63), (6, 126)] (by decide +kernel)
set_option maxRecDepth 100000 in
theorem zlw_wsL_law0_r30 : ∀ w ∈ wsL_law0_r30, w ∈ lw_tbl := zin_parts [(6, 128), (0, 32), (6, 129), (6, 130), (6, 132), (0, 33), (6, 133), (6, 134), (6, 136), (0, 34), (6, 137), (6, 176), (6, 177), (6, 138), (6, 139), (1, 25), (6, 140), (6, 141), (6, 142), (6, 143), (6, 144), (6, 145), (6, 146), (6, 147)] (by decide +kernel)
set_option maxRecDepth 100000 in
theorem zlw_wsL_law0_r31 : ∀ w ∈ wsL_law0_r31, w ∈ lw_tbl := zin_parts [(6, 148), (6, 149), (7, 173), (6, 150), (6, 169), (6, 170), (6, 171), (6, 172), (6, 173), (6, 175), (6, 179), (6, 182), (6, 184), (6, 186), (6, 187), (6, 188), (1, 26), (6, 189), (6, 190), (6, 191), (1, 27), (6, 192), (6, 193), (6, 194)] (by decide +kernel)
set_option maxRecDepth 100000 in
theorem zlw_wsL_law0_r32 : ∀ w ∈ wsL_law0_r32, w ∈ lw_tbl := zin_parts [(6, 195), (6, 196), (3, 197), (3, 198), (3, 199), (3, 200), (3, 201), (3, 202), (3, 203), (1, 197), (3, 204), (3, 206), (0, 13), (3, 207), (3, 208), (3, 209), (3, 210), (3, 211), (3, 212), (3, 213), (3, 214), (3, 215), (6, 198), (6, 199)] (by decide +kernel)
set_option maxRecDepth 100000 in
theorem zlw_wsL_law0_r33 : ∀ w ∈ wsL_law0_r33, w ∈ lw_tbl := zin_parts [(6, 200), (6, 201), (6, 202), (6, 204), (0, 35), (6, 205), (6, 206), (6, 208), (0, 36), (6, 209), (3, 216), (3, 217), (3, 218), (3, 219), (3, 220), (3, 221), (3, 222), (3, 223), (1, 199), (3, 224), (3, 225), (3, 226), (3, 227), (6, 210)] (by decide +kernel)
set_option maxRecDepth 100000 in
theorem zlw_wsL_law0_r34 : ∀ w ∈ wsL_law0_r34, w ∈ lw_tbl := zin_parts [(6, 211), (6, 212), (6, 213), (6, 215), (6, 218), (6, 220), (6, 222), (3, 228), (3, 229), (3, 230), (3, 231), (3, 232), (3, 233), (3, 234), (3, 235), (3, 236), (3, 237), (3, 238), (6, 223), (6, 224), (6, 225), (6, 226), (3, 239), (4, 0)] (by decide +kernel)
set_option maxRecDepth 100000 in
theorem zlw_wsL_law0_r35 : ∀ w ∈ wsL_law0_r35, w ∈ lw_tbl := zin_parts [(4, 1), (4, 2), (4, 3), (4, 4), (4, 5), (6, 227), (6, 228), (6, 229), (6, 230), (4, 6), (4, 7), (4, 8), (4, 9), (4, 10), (4, 11), (4, 12), (4, 13), (4, 14), (4, 15), (4, 16), (4, 17), (1, 28), (6, 231), (6, 232)] (by decide +kernel)
set_option maxRecDepth 100000 in
theorem zlw_wsL_law0_r36 : ∀ w ∈ wsL_law0_r36, w ∈ lw_tbl := zin_parts [(6, 233), (6, 234), (4, 33), (4, 34), (4, 35), (4, 36), (4, 37), (4, 38), (4, 39), (4, 40), (2, 66), (2, 67), (2, 68), (2, 69), (6, 235), (6, 236), (6, 237), (6, 238), (6, 239), (7, 0), (7, 2), (0, 37), (7, 3), (4, 41)] (by decide +kernel)
set_option maxRecDepth 100000 in
theorem zlw_wsL_law0_r37 : ∀ w ∈ wsL_law0_r37, w ∈ lw_tbl := zin_parts [(4, 42), (4, 43), (4, 44), (4, 45), (4, 46), (4, 47), (4, 48), (4, 49), (4, 50), (4, 51), (4, 52), (4, 53), (4, 54), (1, 78), (4, 55), (4, 57), (0, 14), (4, 58), (4, 59), (4, 60), (4, 61), (4, 62), (7, 4), (7, 5)] (by decide +kernel)
set_option maxRecDepth 100000 in
theorem zlw_wsL_law0_r38 : ∀ w ∈ wsL_law0_r38, w ∈ lw_tbl := zin_parts [(7, 6), (7, 7), (7, 8), (7, 9), (7, 10), (7, 11), (7, 12), (7, 13), (4, 63), (4, 64), (4, 65), (4, 66), (4, 67), (4, 68), (4, 69), (4, 70), (4, 71), (4, 72), (4, 73), (4, 79), (4, 74), (4, 76), (0, 15), (4, 77)] (by decide +kernel)
set_option maxRecDepth 100000 in
theorem zlw_wsL_law0_r39 : ∀ w ∈ wsL_law0_r39, w ∈ lw_tbl := zin_parts [(4, 78), (7, 14), (7, 15), (7, 16), (7, 17), (7, 18), (7, 19), (7, 20), (4, 80), (4, 81), (4, 82), (4, 83), (4, 84), (4, 85), (4, 86), (4, 87), (7, 21), (7, 22), (7, 23), (7, 24), (7, 25), (4, 88), (4, 89), (4, 90)] (by decide +kernel)
set_option maxRecDepth 100000 in
theorem zlw_wsL_law0_r40 : ∀ w ∈ wsL_law0_r40, w ∈ lw_tbl := zin_parts [(4, 91), (4, 92), (4, 93), (4, 94), (1, 138), (4, 95), (4, 96), (4, 97), (4, 98), (4, 99), (4, 100), (4, 101), (4, 102), (4, 103), (7, 26), (7, 27), (7, 28), (7, 29), (5, 80), (2, 30), (2, 31), (2, 32), (2, 33), (2, 34)] (by decide +kernel)
set_option maxRecDepth 100000 in
theorem zlw_wsL_law0_r41 : ∀ w ∈ wsL_law0_r41, w ∈ lw_tbl := zin_parts [(2, 35), (2, 36), (2, 37), (7, 30), (7, 31), (7, 32), (7, 33), (4, 104), (4, 105), (4, 106), (4, 107), (4, 108), (4, 109), (4, 110), (4, 111), (4, 113), (0, 16), (4, 114), (4, 115), (4, 116), (4, 117), (4, 118), (1, 79), (1, 90)] (by decide +kernel)
set_option maxRecDepth 100000 in
theorem zlw_wsL_law0_r42 : ∀ w ∈ wsL_law0_r42, w ∈ lw_tbl := zin_parts [(4, 119), (4, 121), (0, 17), (4, 122), (4, 123), (4, 124), (4, 125), (4, 126), (4, 127), (7, 34), (7, 35), (7, 36), (7, 37), (7, 38), (7, 40), (0, 38), (7, 41), (7, 42), (7, 44), (0, 39), (7, 45), (7, 46), (7, 48), (0, 40)] (by decide +kernel)
set_option maxRecDepth 100000 in
theorem zlw_wsL_law0_r43 : ∀ w ∈ wsL_law0_r43, w ∈ lw_tbl := zin_parts [(7, 49), (7, 50), (7, 52), (0, 41), (7, 53), (4, 128), (4, 129), (4, 130), (4, 131), (4, 132), (4, 133), (4, 134), (4, 135), (4, 136), (4, 137), (4, 138), (4, 139), (4, 141), (0, 18), (4, 142), (7, 54), (7, 55), (7, 56), (7, 57)] (by decide +kernel)
set_option maxRecDepth 100000 in
theorem zlw_wsL_law0_r44 : ∀ w ∈ wsL_law0_r44, w ∈ lw_tbl := zin_parts [(4, 143), (4, 144), (4, 145), (4, 146), (4, 147), (4, 148), (4, 149), (4, 150), (4, 151), (4, 152), (4, 153), (1, 85), (7, 58), (7, 59), (7, 60), (7, 61), (4, 154), (4, 155), (4, 156), (4, 157), (4, 158), (4, 159), (4, 160), (4, 161)] (by decide +kernel)
set_option maxRecDepth 100000 in
theorem zlw_wsL_law0_r45 : ∀ w ∈ wsL_law0_r45, w ∈ lw_tbl := zin_parts [(4, 162), (4, 163), (4, 164), (4, 166), (4, 165), (4, 167), (7, 62), (7, 63), (7, 64), (7, 65), (7, 66), (7, 68), (0, 42), (7, 69), (7, 70), (4, 168), (4, 169), (4, 170), (4, 171), (4, 172), (4, 173), (4, 174), (1, 157), (4, 175)] (by decide +kernel)
set_option maxRecDepth 100000 in
theorem zlw_wsL_law0_r46 : ∀ w ∈ wsL_law0_r46, w ∈ lw_tbl := zin_parts [(4, 176), (4, 177), (4, 178), (7, 71), (7, 72), (7, 73), (7, 74), (5, 82), (2, 38), (2, 39), (2, 40), (2, 41), (2, 42), (2, 43), (2, 44), (2, 45), (7, 75), (7, 76), (7, 77), (7, 78), (4, 179), (4, 180), (4, 181), (4, 182)] (by decide +kernel)
set_option maxRecDepth 100000 in
theorem zlw_wsL_law0_r47 : ∀ w ∈ wsL_law0_r47, w ∈ lw_tbl := zin_parts [(4, 183), (4, 184), (4, 185), (4, 186), (4, 187), (4, 188), (4, 189), (4, 190), (4, 191), (4, 192), (4, 193), (4, 194), (7, 79), (7, 80), (7, 81), (7, 82), (7, 83), (7, 85), (0, 43), (7, 86), (7, 87), (7, 89), (0, 44), (7, 90)] (by decide +kernel)
set_option maxRecDepth 100000 in
theorem zlw_wsL_law0_r48 : ∀ w ∈ wsL_law0_r48, w ∈ lw_tbl := zin_parts [(7, 91), (4, 195), (4, 196), (4, 197), (4, 198), (4, 199), (4, 200), (4, 201), (4, 206), (1, 172), (4, 202), (4, 203), (4, 204), (4, 205), (4, 207), (4, 208), (4, 209), (4, 210), (7, 92), (7, 93), (7, 94), (7, 95), (5, 85), (7, 96)] (by decide +kernel)
set_option maxRecDepth 100000 in
theorem zlw_wsL_law0_r49 : ∀ w ∈ wsL_law0_r49, w ∈ lw_tbl := zin_parts [(2, 46), (2, 47), (2, 48), (2, 49), (2, 50), (2, 51), (2, 52), (2, 53), (7, 97), (7, 98), (7, 99), (7, 100), (4, 211), (4, 212), (4, 213), (4, 214), (4, 215), (4, 216), (4, 217), (4, 218), (4, 219), (4, 220), (4, 221), (4, 222)] (by decide +kernel)
set_option maxRecDepth 100000 in
theorem zlw_wsL_law0_r50 : ∀ w ∈ wsL_law0_r50, w ∈ lw_tbl := zin_parts [(4, 223), (7, 101), (7, 102), (7, 103), (7, 104), (7, 105), (7, 107), (0, 45), (7, 108), (7, 109), (4, 224), (4, 225), (4, 226), (4, 227), (4, 228), (4, 229), (4, 230), (4, 231), (4, 232), (4, 233), (4, 234), (4, 235), (5, 2), (5, 3)] (by decide +kernel)
set_option maxRecDepth 100000 in
theorem zlw_wsL_law0_r51 : ∀ w ∈ wsL_law0_r51, w ∈ lw_tbl := zin_parts [(5, 4), (4, 236), (4, 238), (0, 19), (4, 239), (5, 0), (5, 1), (7, 110), (7, 111), (7, 112), (7, 113), (7, 114), (7, 116), (0, 46), (7, 117), (5, 5), (5, 6), (5, 7), (5, 8), (5, 9), (5, 10), (5, 11), (5, 32), (5, 12)] (by decide +kernel)
set_option maxRecDepth 100000 in
theorem zlw_wsL_law0_r52 : ∀ w ∈ wsL_law0_r52, w ∈ lw_tbl := zin_parts [(5, 13), (5, 14), (5, 15), (5, 20), (5, 16), (5, 17), (5, 18), (5, 19), (5, 21), (5, 22), (5, 23), (5, 24), (5, 25), (5, 26), (5, 27), (5, 28), (5, 29), (5, 30), (1, 88), (5, 31), (5, 33), (5, 34), (5, 35), (5, 36)] (by decide +kernel)
set_option maxRecDepth 100000 in
theorem zlw_wsL_law0_r53 : ∀ w ∈ wsL_law0_r53, w ∈ lw_tbl := zin_parts [(5, 37), (7, 118), (7, 119), (7, 120), (7, 121), (7, 122), (7, 124), (0, 47), (7, 125), (7, 126), (7, 128), (0, 48), (7, 129), (7, 130), (7, 131), (7, 133), (0, 49), (7, 134), (7, 135), (7, 137), (0, 50), (7, 138), (7, 139), (7, 140)] (by decide +kernel)
set_option maxRecDepth 100000 in
theorem zlw_wsL_law0_r54 : ∀ w ∈ wsL_law0_r54, w ∈ lw_tbl := zin_parts [(7, 141), (7, 142), (2, 54), (2, 55), (2, 56), (2, 57), (2, 58), (2, 59), (2, 60), (2, 61), (7, 143), (7, 144), (7, 145), (7, 146), (2, 62), (2, 63), (2, 64), (2, 65), (7, 147), (7, 148), (7, 149), (7, 150)] (by decide +kernel)
set_option maxRecDepth 100000 in
theorem zlw_wsX90 : ∀ w ∈ wsX90, w ∈ lw_tbl := zin_parts [(1, 226), (1, 228), (1, 230), (1, 232), (1, 234), (1, 236), (1, 238), (2, 0)] (by decide +kernel)
set_option maxRecDepth 100000 in
theorem zlw_wsX120 : ∀ w ∈ wsX120, w ∈ lw_tbl := zin_parts [(5, 86), (5, 88), (5, 90), (5, 92), (5, 94), (5, 96), (5, 98), (5, 100), (5, 102), (5, 104), (5, 106), (5, 108)] (by decide +kernel)
set_option maxRecDepth 100000 in
theorem zlw_wsX40 : ∀ w ∈ wsX40, w ∈ lw_tbl := zin_parts [(1, 45)] (by decide +kernel)
set_option maxRecDepth 100000 in
theorem zlw_wsX50 : ∀ w ∈ wsX50, w ∈ lw_tbl := zin_parts [(1, 107), (1, 109), (1, 111)] (by decide +kernel)
set_option maxRecDepth 100000 in
theorem zlw_wsX00 : ∀ w ∈ wsX00, w ∈ lw_tbl := zin_parts [(1, 123)] (by decide +kernel)
set_option maxRecDepth 100000 in
theorem zlw_wsX20 : ∀ w ∈ wsX20, w ∈ lw_tbl := zin_parts [(1, 139), (1, 141), (1, 143), (1, 145)] (by decide +kernel)
set_option maxRecDepth 100000 in
theorem zlw_wsX60 : ∀ w ∈ wsX60, w ∈ lw_tbl := zin_parts [(1, 158), (1, 160)] (by decide +kernel)
set_option maxRecDepth 100000 in
theorem zlw_wsX70 : ∀ w ∈ wsX70, w ∈ lw_tbl := zin_parts [(1, 173), (1, 175), (1, 177)] (by decide +kernel)
set_option maxRecDepth 100000 in
theorem zlw_wsX30 : ∀ w ∈ wsX30, w ∈ lw_tbl := zin_parts [(1, 200), (1, 202), (1, 204), (1, 206), (1, 208), (1, 210), (1, 212), (1, 214)] (by decide +kernel)
set_option maxRecDepth 100000 in
theorem zlw_wsX10 : ∀ w ∈ wsX10, w ∈ lw_tbl := zin_parts [(1, 91), (1, 93), (1, 95), (1, 97), (1, 99), (1, 101)] (by decide +kernel)
set_option maxRecDepth 100000 in
theorem zlw_wsX80 : ∀ w ∈ wsX80, w ∈ lw_tbl := zin_parts [(1, 69), (1, 71), (1, 73)] (by decide +kernel)
set_option maxRecDepth 100000 in
theorem zlw_wsJx4a65c0 : ∀ w ∈ wsJx4a65c0, w ∈ lw_tbl := zin_parts [(5, 71), (5, 67), (5, 69)] (by decide +kernel)
set_option maxRecDepth 100000 in
theorem zlw_wsX110 : ∀ w ∈ wsX110, w ∈ lw_tbl := zin_parts [(5, 148), (5, 150)] (by decide +kernel)
set_option maxRecDepth 100000 in
theorem zlw_wsX100 : ∀ w ∈ wsX100, w ∈ lw_tbl := zin_parts [(6, 89), (6, 91), (6, 93), (6, 95), (6, 97), (6, 99)] (by decide +kernel)
theorem wsL_law_in0 : ∀ w ∈ wsL_law0, w ∈ lw_tbl := zap (zap (zap (zap (zap (zap (zap (zap (zap (zap (zap (zap (zap (zap (zap (zap zlw_wsL_law0_r1 (zap zlw_wsL_law0_r2 (zap zlw_wsL_law0_r3 (zap zlw_wsL_law0_r4 (zap zlw_wsL_law0_r5 (zap zlw_wsL_law0_r6 (zap zlw_wsL_law0_r7 (zap zlw_wsL_law0_r8 (zap zlw_wsL_law0_r9 (zap zlw_wsL_law0_r10 (zap zlw_wsL_law0_r11 (zap zlw_wsL_law0_r12 (zap zlw_wsL_law0_r13 (zap zlw_wsL_law0_r14 (zap zlw_wsL_law0_r15 (zap zlw_wsL_law0_r16 (zap zlw_wsL_law0_r17 (zap zlw_wsL_law0_r18 (zap zlw_wsL_law0_r19 (zap zlw_wsL_law0_r20 (zap zlw_wsL_law0_r21 (zap zlw_wsL_law0_r22 (zap zlw_wsL_law0_r23 (zap zlw_wsL_law0_r24 (zap zlw_wsL_law0_r25 (zap zlw_wsL_law0_r26 (zap zlw_wsL_law0_r27 (zap zlw_wsL_law0_r28 (zap zlw_wsL_law0_r29 (zap zlw_wsL_law0_r30 (zap zlw_wsL_law0_r31 (zap zlw_wsL_law0_r32 (zap zlw_wsL_law0_r33 (zap zlw_wsL_law0_r34 (zap zlw_wsL_law0_r35 (zap zlw_wsL_law0_r36 (zap zlw_wsL_law0_r37 (zap zlw_wsL_law0_r38 (zap zlw_wsL_law0_r39 (zap zlw_wsL_law0_r40 (zap zlw_wsL_law0_r41 (zap zlw_wsL_law0_r42 (zap zlw_wsL_law0_r43 (zap zlw_wsL_law0_r44 (zap zlw_wsL_law0_r45 (zap zlw_wsL_law0_r46 (zap zlw_wsL_law0_r47 (zap zlw_wsL_law0_r48 (zap zlw_wsL_law0_r49 (zap zlw_wsL_law0_r50 (zap zlw_wsL_law0_r51 (zap zlw_wsL_law0_r52 (zap zlw_wsL_law0_r53 (zlw_wsL_law0_r54)))))))))))))))))))))))))))))))))))))))))))))))))))))) zlw_wsX90) zlw_wsX120) zlw_wsX40) zlw_wsX50) zlw_wsX00) zlw_wsX20) zlw_wsX60) zlw_wsX70) zlw_wsX30) zlw_wsX10) zlw_wsX80) zlw_wsJx4a65c0) zlw_wsX110) zlw_wsX100) (fun _ h => nomatch h)
theorem wsL_law_x0 : ∀ w ∈ (vx_atS RX9 285 "java/lang/IllegalArgumentException" ["java/lang/RuntimeException", "java/lang/Exception"]).filter goodWord, w ∈ lw_tbl := by decide +kernel
theorem wsL_law_x1 : ∀ w ∈ (vx_atS RX9 292 "java/lang/IllegalStateException" ["java/lang/RuntimeException", "java/lang/Exception"]).filter goodWord, w ∈ lw_tbl := by decide +kernel
theorem wsL_law_x2 : ∀ w ∈ (vx_atSX RX9 297 "java/util/NoSuchElementException" 13 zrx13 ["java/lang/RuntimeException", "java/lang/Exception"]).filter goodWord, w ∈ lw_tbl := by decide +kernel
theorem wsL_law_in : ∀ w ∈ wsL_law, w ∈ lw_tbl := fun w h => (List.mem_append.mp h).elim (fun h => (List.mem_append.mp h).elim (fun h => (List.mem_append.mp h).elim (fun h => wsL_law_in0 w h) (fun h => wsL_law_x0 w h)) (fun h => wsL_law_x1 w h)) (fun h => wsL_law_x2 w h)
theorem inlX0 : ∀ w ∈ wsX00, w ∈ wsL_law := fun _ h => List.mem_append_left _ (List.mem_append_left _ (List.mem_append_left _ (List.mem_append_left _ (List.mem_append_left _ (List.mem_append_left _ (List.mem_append_left _ (List.mem_append_left _ (List.mem_append_left _ (List.mem_append_left _ (List.mem_append_left _ (List.mem_append_left _ (List.mem_append_left _ (List.mem_append_right _ h)))))))))))))
theorem inX0 : ∀ w ∈ wsX00, w ∈ lw_tbl := fun w h => wsL_law_in w (inlX0 w h)
theorem inlX1 : ∀ w ∈ wsX10, w ∈ wsL_law := fun _ h => List.mem_append_left _ (List.mem_append_left _ (List.mem_append_left _ (List.mem_append_left _ (List.mem_append_left _ (List.mem_append_left _ (List.mem_append_left _ (List.mem_append_left _ (List.mem_append_right _ h))))))))
theorem inX1 : ∀ w ∈ wsX10, w ∈ lw_tbl := fun w h => wsL_law_in w (inlX1 w h)
theorem inlX2 : ∀ w ∈ wsX20, w ∈ wsL_law := fun _ h => List.mem_append_left _ (List.mem_append_left _ (List.mem_append_left _ (List.mem_append_left _ (List.mem_append_left _ (List.mem_append_left _ (List.mem_append_left _ (List.mem_append_left _ (List.mem_append_left _ (List.mem_append_left _ (List.mem_append_left _ (List.mem_append_left _ (List.mem_append_right _ h))))))))))))
theorem inX2 : ∀ w ∈ wsX20, w ∈ lw_tbl := fun w h => wsL_law_in w (inlX2 w h)
theorem inlX3 : ∀ w ∈ wsX30, w ∈ wsL_law := fun _ h => List.mem_append_left _ (List.mem_append_left _ (List.mem_append_left _ (List.mem_append_left _ (List.mem_append_left _ (List.mem_append_left _ (List.mem_append_left _ (List.mem_append_left _ (List.mem_append_left _ (List.mem_append_right _ h)))))))))
theorem inX3 : ∀ w ∈ wsX30, w ∈ lw_tbl := fun w h => wsL_law_in w (inlX3 w h)
theorem inlX4 : ∀ w ∈ wsX40, w ∈ wsL_law := fun _ h => List.mem_append_left _ (List.mem_append_left _ (List.mem_append_left _ (List.mem_append_left _ (List.mem_append_left _ (List.mem_append_left _ (List.mem_append_left _ (List.mem_append_left _ (List.mem_append_left _ (List.mem_append_left _ (List.mem_append_left _ (List.mem_append_left _ (List.mem_append_left _ (List.mem_append_left _ (List.mem_append_left _ (List.mem_append_right _ h)))))))))))))))
theorem inX4 : ∀ w ∈ wsX40, w ∈ lw_tbl := fun w h => wsL_law_in w (inlX4 w h)
theorem inlX5 : ∀ w ∈ wsX50, w ∈ wsL_law := fun _ h => List.mem_append_left _ (List.mem_append_left _ (List.mem_append_left _ (List.mem_append_left _ (List.mem_append_left _ (List.mem_append_left _ (List.mem_append_left _ (List.mem_append_left _ (List.mem_append_left _ (List.mem_append_left _ (List.mem_append_left _ (List.mem_append_left _ (List.mem_append_left _ (List.mem_append_left _ (List.mem_append_right _ h))))))))))))))
theorem inX5 : ∀ w ∈ wsX50, w ∈ lw_tbl := fun w h => wsL_law_in w (inlX5 w h)
theorem inlX6 : ∀ w ∈ wsX60, w ∈ wsL_law := fun _ h => List.mem_append_left _ (List.mem_append_left _ (List.mem_append_left _ (List.mem_append_left _ (List.mem_append_left _ (List.mem_append_left _ (List.mem_append_left _ (List.mem_append_left _ (List.mem_append_left _ (List.mem_append_left _ (List.mem_append_left _ (List.mem_append_right _ h)))))))))))
theorem inX6 : ∀ w ∈ wsX60, w ∈ lw_tbl := fun w h => wsL_law_in w (inlX6 w h)
theorem inlX7 : ∀ w ∈ wsX70, w ∈ wsL_law := fun _ h => List.mem_append_left _ (List.mem_append_left _ (List.mem_append_left _ (List.mem_append_left _ (List.mem_append_left _ (List.mem_append_left _ (List.mem_append_left _ (List.mem_append_left _ (List.mem_append_left _ (List.mem_append_left _ (List.mem_append_right _ h))))))))))
theorem inX7 : ∀ w ∈ wsX70, w ∈ lw_tbl := fun w h => wsL_law_in w (inlX7 w h)
theorem inlX8 : ∀ w ∈ wsX80, w ∈ wsL_law := fun _ h => List.mem_append_left _ (List.mem_append_left _ (List.mem_append_left _ (List.mem_append_left _ (List.mem_append_left _ (List.mem_append_left _ (List.mem_append_left _ (List.mem_append_right _ h)))))))
theorem inX8 : ∀ w ∈ wsX80, w ∈ lw_tbl := fun w h => wsL_law_in w (inlX8 w h)
theorem inlX9 : ∀ w ∈ wsX90, w ∈ wsL_law := fun _ h => List.mem_append_left _ (List.mem_append_left _ (List.mem_append_left _ (List.mem_append_left _ (List.mem_append_left _ (List.mem_append_left _ (List.mem_append_left _ (List.mem_append_left _ (List.mem_append_left _ (List.mem_append_left _ (List.mem_append_left _ (List.mem_append_left _ (List.mem_append_left _ (List.mem_append_left _ (List.mem_append_left _ (List.mem_append_left _ (List.mem_append_left _ (List.mem_append_right _ h)))))))))))))))))
theorem inX9 : ∀ w ∈ wsX90, w ∈ lw_tbl := fun w h => wsL_law_in w (inlX9 w h)
theorem inlX10 : ∀ w ∈ wsX100, w ∈ wsL_law := fun _ h => List.mem_append_left _ (List.mem_append_left _ (List.mem_append_left _ (List.mem_append_left _ (List.mem_append_right _ h))))
theorem inX10 : ∀ w ∈ wsX100, w ∈ lw_tbl := fun w h => wsL_law_in w (inlX10 w h)
theorem inlX11 : ∀ w ∈ wsX110, w ∈ wsL_law := fun _ h => List.mem_append_left _ (List.mem_append_left _ (List.mem_append_left _ (List.mem_append_left _ (List.mem_append_left _ (List.mem_append_right _ h)))))
theorem inX11 : ∀ w ∈ wsX110, w ∈ lw_tbl := fun w h => wsL_law_in w (inlX11 w h)
theorem inlX12 : ∀ w ∈ wsX120, w ∈ wsL_law := fun _ h => List.mem_append_left _ (List.mem_append_left _ (List.mem_append_left _ (List.mem_append_left _ (List.mem_append_left _ (List.mem_append_left _ (List.mem_append_left _ (List.mem_append_left _ (List.mem_append_left _ (List.mem_append_left _ (List.mem_append_left _ (List.mem_append_left _ (List.mem_append_left _ (List.mem_append_left _ (List.mem_append_left _ (List.mem_append_left _ (List.mem_append_right _ h))))))))))))))))
theorem inX12 : ∀ w ∈ wsX120, w ∈ lw_tbl := fun w h => wsL_law_in w (inlX12 w h)
theorem inJx145de : ∀ w ∈ wsJx145de0, w ∈ lw_tbl := by decide +kernel
theorem inJx8e188 : ∀ w ∈ wsJx8e1880, w ∈ lw_tbl := by decide +kernel
theorem inJxab1ab : ∀ w ∈ wsJxab1ab0, w ∈ lw_tbl := by decide +kernel
theorem inJ9 : ∀ w ∈ wsJ90, w ∈ lw_tbl := by decide +kernel
theorem inJ0 : ∀ w ∈ wsJ00, w ∈ lw_tbl := by decide +kernel
theorem inJ10 : ∀ w ∈ wsJ100, w ∈ lw_tbl := by decide +kernel
theorem inJxa1e45 : ∀ w ∈ wsJxa1e450, w ∈ lw_tbl := by decide +kernel
theorem inJxc12de : ∀ w ∈ wsJxc12de0, w ∈ lw_tbl := by decide +kernel
theorem inlJx4a65c : ∀ w ∈ wsJx4a65c0, w ∈ wsL_law := fun _ h => List.mem_append_left _ (List.mem_append_left _ (List.mem_append_left _ (List.mem_append_left _ (List.mem_append_left _ (List.mem_append_left _ (List.mem_append_right _ h))))))
theorem inJx4a65c : ∀ w ∈ wsJx4a65c0, w ∈ lw_tbl := fun w h => wsL_law_in w (inlJx4a65c w h)
theorem inJ7 : ∀ w ∈ wsJ70, w ∈ lw_tbl := by decide +kernel
theorem inJx5ef63 : ∀ w ∈ wsJx5ef630, w ∈ lw_tbl := by decide +kernel
theorem inJxbd725 : ∀ w ∈ wsJxbd7250, w ∈ lw_tbl := by decide +kernel
theorem inJ15 : ∀ w ∈ wsJ150, w ∈ lw_tbl := by decide +kernel
theorem inJxf0a74 : ∀ w ∈ wsJxf0a740, w ∈ lw_tbl := by decide +kernel
theorem inJxa66e6 : ∀ w ∈ wsJxa66e60, w ∈ lw_tbl := by decide +kernel
theorem inJ8 : ∀ w ∈ wsJ80, w ∈ lw_tbl := by decide +kernel
theorem inJ3 : ∀ w ∈ wsJ30, w ∈ lw_tbl := by decide +kernel

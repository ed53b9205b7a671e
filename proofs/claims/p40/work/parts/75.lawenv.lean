-- printed rows of Lwords
-- the law's words: where each lies in the tables (laid by wip/p40/mkw.py)
def zptb : Nat → List Cond
  | 0 => k2_sels lw_privs
  | 1 => tables_1_1
  | 2 => tables_1_2
  | 3 => tables_1_3
  | 4 => tables_1_4
  | 5 => tables_1_5
  | _ => []
theorem zptb_sub : ∀ (n : Nat) (w : Cond), w ∈ zptb n → w ∈ lw_tbl := by
  intro n w h
  unfold lw_tbl tables_1
  simp only [List.mem_append]
  match n, h with
  | 0, h => exact Or.inl h
  | 1, h => exact Or.inr (Or.inl h)
  | 2, h => exact Or.inr (Or.inr (Or.inl h))
  | 3, h => exact Or.inr (Or.inr (Or.inr (Or.inl h)))
  | 4, h => exact Or.inr (Or.inr (Or.inr (Or.inr (Or.inl h))))
  | 5, h => exact Or.inr (Or.inr (Or.inr (Or.inr (Or.inr (h)))))
  | n + 6, h => cases h
theorem zin_parts {r : List Cond} (ps : List (Nat × Nat)) (h : r = ps.filterMap (fun q => (zptb q.1)[q.2]?)) : ∀ w ∈ r, w ∈ lw_tbl := by
  intro w hw
  rw [h] at hw
  obtain ⟨q, -, hq⟩ := List.mem_filterMap.mp hw
  exact zptb_sub q.1 w (List.mem_iff_getElem?.mpr ⟨q.2, hq⟩)
theorem zapw {a b : List Cond} {P : Cond → Prop} (ha : ∀ w ∈ a, P w) (hb : ∀ w ∈ b, P w) : ∀ w ∈ a ++ b, P w := fun w h => (List.mem_append.mp h).elim (ha w) (hb w)
set_option maxRecDepth 100000 in
theorem zlw_wsL_law0_r1 : ∀ w ∈ wsL_law0_r1, w ∈ lw_tbl := zin_parts [(1, 21), (1, 22), (1, 1), (4, 121), (4, 173), (2, 86), (2, 87), (1, 0), (2, 88), (1, 140), (2, 89), (2, 90), (2, 91), (1, 23), (1, 24), (1, 25), (1, 26), (1, 27), (1, 28), (1, 29), (1, 30), (1, 2), (1, 210), (1, 40)] rfl
set_option maxRecDepth 100000 in
theorem zlw_wsL_law0_r2 : ∀ w ∈ wsL_law0_r2, w ∈ lw_tbl := zin_parts [(1, 41), (1, 3), (1, 211), (1, 106), (1, 107), (1, 6), (1, 212), (1, 118), (1, 119), (1, 7), (1, 213), (1, 141), (1, 142), (1, 8), (1, 214), (1, 155), (1, 156), (1, 9), (1, 215), (1, 172), (1, 173), (1, 10), (1, 216), (1, 217)] rfl
set_option maxRecDepth 100000 in
theorem zlw_wsL_law0_r3 : ∀ w ∈ wsL_law0_r3, w ∈ lw_tbl := zin_parts [(1, 32), (1, 33), (1, 34), (1, 35), (1, 43), (1, 44), (1, 45), (1, 68), (1, 96), (1, 46), (1, 47), (1, 4), (1, 97), (1, 98), (1, 49), (1, 50), (1, 51), (1, 52), (1, 53), (1, 5), (1, 69), (1, 74), (1, 75), (1, 76)] rfl
set_option maxRecDepth 100000 in
theorem zlw_wsL_law0_r4 : ∀ w ∈ wsL_law0_r4, w ∈ lw_tbl := zin_parts [(1, 78), (1, 81), (1, 55), (1, 56), (1, 57), (1, 58), (1, 59), (1, 60), (1, 109), (1, 110), (1, 111), (1, 112), (1, 114), (1, 121), (1, 122), (1, 123), (1, 126), (1, 124), (1, 127), (1, 128), (1, 129), (1, 144), (1, 145), (1, 146)] rfl
set_option maxRecDepth 100000 in
theorem zlw_wsL_law0_r5 : ∀ w ∈ wsL_law0_r5, w ∈ lw_tbl := zin_parts [(1, 147), (1, 148), (1, 158), (1, 159), (1, 160), (1, 161), (1, 162), (1, 163), (1, 175), (1, 176), (1, 177), (1, 182), (1, 183), (1, 209), (1, 184), (1, 178), (1, 185), (1, 180), (1, 186), (1, 187), (1, 188), (1, 190), (2, 74), (2, 75)] rfl
set_option maxRecDepth 100000 in
theorem zlw_wsL_law0_r6 : ∀ w ∈ wsL_law0_r6, w ∈ lw_tbl := zin_parts [(2, 76), (2, 77), (1, 36), (2, 96), (2, 97), (2, 98), (2, 99), (2, 100), (2, 101), (4, 119), (4, 120), (2, 102), (2, 103), (2, 104), (2, 105), (2, 106), (2, 107), (2, 108), (2, 109), (2, 0), (2, 1), (2, 2), (2, 3), (2, 4)] rfl
set_option maxRecDepth 100000 in
theorem zlw_wsL_law0_r7 : ∀ w ∈ wsL_law0_r7, w ∈ lw_tbl := zin_parts [(2, 5), (2, 6), (1, 14), (2, 110), (2, 111), (2, 112), (2, 113), (2, 114), (2, 115), (1, 15), (2, 116), (2, 117), (2, 118), (2, 119), (2, 120), (2, 122), (0, 1), (2, 123), (2, 125), (2, 126), (2, 127), (1, 16), (2, 143), (2, 145)] rfl
set_option maxRecDepth 100000 in
theorem zlw_wsL_law0_r8 : ∀ w ∈ wsL_law0_r8, w ∈ lw_tbl := zin_parts [(0, 2), (2, 146), (2, 147), (2, 148), (2, 149), (2, 150), (2, 151), (2, 152), (2, 153), (2, 154), (2, 155), (2, 156), (2, 157), (2, 158), (2, 159), (2, 160), (2, 163), (2, 164), (2, 165), (2, 166), (2, 167), (2, 168), (2, 169), (2, 170)] rfl
set_option maxRecDepth 100000 in
theorem zlw_wsL_law0_r9 : ∀ w ∈ wsL_law0_r9, w ∈ lw_tbl := zin_parts [(2, 171), (2, 172), (2, 173), (2, 174), (2, 175), (2, 176), (2, 177), (2, 178), (2, 179), (2, 180), (2, 181), (2, 182), (2, 183), (2, 184), (2, 185), (2, 186), (2, 187), (2, 188), (2, 189), (2, 194), (2, 195), (2, 196), (1, 79), (1, 72)] rfl
set_option maxRecDepth 100000 in
theorem zlw_wsL_law0_r10 : ∀ w ∈ wsL_law0_r10, w ∈ lw_tbl := zin_parts [(2, 190), (2, 192), (0, 3), (2, 193), (2, 197), (2, 199), (0, 4), (2, 200), (2, 201), (2, 202), (2, 203), (2, 204), (2, 205), (2, 206), (2, 207), (2, 208), (2, 209), (2, 210), (2, 211), (2, 212), (2, 213), (2, 215), (0, 5), (2, 216)] rfl
set_option maxRecDepth 100000 in
theorem zlw_wsL_law0_r11 : ∀ w ∈ wsL_law0_r11, w ∈ lw_tbl := zin_parts [(2, 217), (2, 218), (2, 219), (2, 220), (2, 221), (2, 223), (0, 6), (2, 224), (2, 225), (2, 226), (2, 227), (2, 228), (2, 229), (2, 230), (2, 231), (2, 232), (2, 233), (2, 234), (2, 236), (0, 7), (2, 237), (2, 238), (2, 239), (1, 17)] rfl
set_option maxRecDepth 100000 in
theorem zlw_wsL_law0_r12 : ∀ w ∈ wsL_law0_r12, w ∈ lw_tbl := zin_parts [(3, 0), (3, 1), (3, 2), (3, 3), (3, 4), (3, 5), (3, 7), (3, 8), (3, 9), (3, 10), (3, 11), (3, 13), (3, 12), (1, 18), (3, 14), (3, 15), (3, 16), (3, 17), (3, 18), (3, 19), (3, 20), (3, 21), (3, 22), (3, 23)] rfl
set_option maxRecDepth 100000 in
theorem zlw_wsL_law0_r13 : ∀ w ∈ wsL_law0_r13, w ∈ lw_tbl := zin_parts [(3, 24), (3, 25), (3, 26), (3, 27), (3, 28), (3, 29), (3, 30), (3, 31), (3, 32), (3, 37), (3, 33), (3, 34), (3, 35), (3, 36), (3, 38), (3, 39), (3, 40), (3, 41), (3, 42), (3, 51), (3, 56), (3, 43), (3, 45), (0, 8)] rfl
set_option maxRecDepth 100000 in
theorem zlw_wsL_law0_r14 : ∀ w ∈ wsL_law0_r14, w ∈ lw_tbl := zin_parts [(3, 46), (3, 47), (3, 48), (3, 49), (3, 50), (3, 52), (3, 53), (3, 54), (3, 55), (3, 57), (3, 58), (3, 59), (3, 60), (3, 61), (3, 62), (3, 63), (3, 64), (3, 65), (3, 66), (3, 67), (3, 68), (3, 69), (3, 70), (3, 71)] rfl
set_option maxRecDepth 100000 in
theorem zlw_wsL_law0_r15 : ∀ w ∈ wsL_law0_r15, w ∈ lw_tbl := zin_parts [(3, 81), (3, 72), (3, 74), (0, 9), (3, 75), (3, 76), (3, 77), (3, 78), (3, 79), (3, 80), (3, 82), (3, 83), (3, 84), (3, 85), (3, 86), (3, 87), (3, 88), (3, 89), (3, 90), (3, 91), (3, 92), (3, 93), (3, 94), (3, 103)] rfl
set_option maxRecDepth 100000 in
theorem zlw_wsL_law0_r16 : ∀ w ∈ wsL_law0_r16, w ∈ lw_tbl := zin_parts [(3, 95), (3, 97), (0, 10), (3, 98), (1, 73), (3, 99), (3, 100), (3, 101), (3, 102), (3, 104), (3, 105), (3, 107), (0, 11), (3, 108), (3, 109), (3, 110), (3, 111), (3, 112), (3, 114), (0, 12), (3, 115), (3, 116), (3, 117), (3, 118)] rfl
set_option maxRecDepth 100000 in
theorem zlw_wsL_law0_r17 : ∀ w ∈ wsL_law0_r17, w ∈ lw_tbl := zin_parts [(3, 119), (3, 120), (3, 121), (3, 122), (3, 123), (1, 189), (3, 124), (3, 126), (0, 13), (3, 127), (3, 128), (3, 129), (3, 130), (3, 131), (3, 132), (3, 133), (3, 134), (3, 135), (3, 136), (3, 137), (3, 138), (3, 139), (3, 140), (1, 191)] rfl
set_option maxRecDepth 100000 in
theorem zlw_wsL_law0_r18 : ∀ w ∈ wsL_law0_r18, w ∈ lw_tbl := zin_parts [(3, 141), (3, 142), (3, 143), (3, 144), (3, 145), (3, 146), (3, 147), (3, 148), (3, 149), (3, 150), (3, 151), (3, 152), (3, 153), (3, 154), (3, 155), (3, 156), (3, 157), (3, 158), (3, 159), (3, 160), (1, 19), (3, 176), (3, 177), (3, 178)] rfl
set_option maxRecDepth 100000 in
theorem zlw_wsL_law0_r19 : ∀ w ∈ wsL_law0_r19, w ∈ lw_tbl := zin_parts [(3, 179), (3, 180), (2, 82), (2, 83), (2, 84), (2, 85), (3, 181), (3, 182), (3, 183), (3, 184), (3, 185), (3, 186), (3, 187), (3, 188), (3, 189), (3, 190), (3, 191), (1, 70), (3, 192), (3, 194), (0, 14), (3, 195), (3, 196), (3, 197)] rfl
set_option maxRecDepth 100000 in
theorem zlw_wsL_law0_r20 : ∀ w ∈ wsL_law0_r20, w ∈ lw_tbl := zin_parts [(3, 198), (3, 199), (3, 200), (3, 201), (3, 202), (3, 203), (3, 204), (3, 205), (3, 206), (3, 207), (3, 208), (1, 130), (3, 209), (3, 210), (3, 211), (3, 212), (3, 213), (3, 214), (3, 215), (3, 216), (3, 217), (3, 218), (3, 219), (3, 220)] rfl
set_option maxRecDepth 100000 in
theorem zlw_wsL_law0_r21 : ∀ w ∈ wsL_law0_r21, w ∈ lw_tbl := zin_parts [(3, 221), (3, 222), (3, 224), (0, 15), (3, 225), (3, 226), (3, 227), (3, 228), (3, 229), (1, 71), (1, 82), (3, 230), (3, 232), (0, 16), (3, 233), (3, 234), (3, 235), (3, 236), (3, 237), (3, 238), (3, 239), (4, 0), (4, 1), (4, 2)] rfl
set_option maxRecDepth 100000 in
theorem zlw_wsL_law0_r22 : ∀ w ∈ wsL_law0_r22, w ∈ lw_tbl := zin_parts [(4, 3), (4, 4), (4, 5), (4, 6), (4, 7), (4, 9), (0, 17), (4, 10), (4, 11), (4, 12), (4, 13), (4, 14), (4, 15), (4, 16), (4, 17), (4, 18), (1, 77), (4, 19), (4, 20), (4, 21), (4, 22), (1, 149), (4, 23), (4, 24)] rfl
set_option maxRecDepth 100000 in
theorem zlw_wsL_law0_r23 : ∀ w ∈ wsL_law0_r23, w ∈ lw_tbl := zin_parts [(4, 25), (4, 26), (4, 27), (4, 28), (4, 29), (4, 30), (4, 31), (4, 32), (4, 33), (4, 34), (4, 35), (4, 36), (4, 37), (4, 38), (4, 39), (4, 40), (4, 41), (4, 42), (4, 43), (4, 48), (1, 164), (4, 44), (4, 45), (4, 46)] rfl
set_option maxRecDepth 100000 in
theorem zlw_wsL_law0_r24 : ∀ w ∈ wsL_law0_r24, w ∈ lw_tbl := zin_parts [(4, 47), (4, 49), (4, 50), (4, 51), (4, 52), (4, 53), (4, 54), (4, 55), (4, 56), (4, 57), (4, 58), (4, 59), (4, 60), (4, 61), (4, 62), (4, 63), (4, 64), (4, 65), (4, 66), (4, 67), (4, 68), (4, 69), (4, 70), (4, 71)] rfl
set_option maxRecDepth 100000 in
theorem zlw_wsL_law0_r25 : ∀ w ∈ wsL_law0_r25, w ∈ lw_tbl := zin_parts [(4, 78), (4, 79), (4, 80), (4, 72), (4, 74), (0, 18), (4, 75), (4, 76), (4, 77), (4, 81), (4, 82), (4, 83), (4, 84), (4, 85), (4, 86), (4, 87), (4, 88), (4, 94), (4, 89), (4, 91), (0, 19), (4, 92), (4, 93), (1, 235)] rfl
set_option maxRecDepth 100000 in
theorem zlw_wsL_law0_r26 : ∀ w ∈ wsL_law0_r26, w ∈ lw_tbl := zin_parts [(1, 236), (1, 237), (1, 238), (1, 239), (4, 95), (4, 96), (4, 97), (4, 98), (4, 99), (4, 100), (4, 101), (4, 102), (4, 103), (4, 104), (4, 105), (4, 106), (4, 108), (4, 107), (4, 109), (4, 110), (4, 111), (4, 112), (4, 113), (4, 114)] rfl
set_option maxRecDepth 100000 in
theorem zlw_wsL_law0_r27 : ∀ w ∈ wsL_law0_r27, w ∈ lw_tbl := zin_parts [(4, 115), (4, 116), (4, 117), (4, 118), (2, 78), (2, 79), (2, 80), (2, 81), (2, 92), (2, 93), (2, 94), (2, 95), (4, 122), (4, 123), (4, 124), (4, 125), (4, 126), (4, 127), (4, 128), (4, 129), (4, 140), (4, 130), (4, 131), (4, 132)] rfl
set_option maxRecDepth 100000 in
theorem zlw_wsL_law0_r28 : ∀ w ∈ wsL_law0_r28, w ∈ lw_tbl := zin_parts [(4, 139), (4, 133), (4, 134), (1, 15), (4, 135), (4, 136), (4, 137), (1, 20), (4, 138), (4, 141), (4, 142), (4, 143), (4, 144), (4, 162), (4, 163), (4, 167), (4, 168), (4, 169), (4, 145), (4, 146), (4, 147), (4, 148), (4, 149), (4, 150)] rfl
set_option maxRecDepth 100000 in
theorem zlw_wsL_law0_r29 : ∀ w ∈ wsL_law0_r29, w ∈ lw_tbl := zin_parts [(4, 151), (4, 152), (4, 153), (4, 154), (4, 155), (4, 156), (4, 157), (4, 158), (4, 159), (4, 160), (4, 161), (4, 164), (4, 165), (4, 166), (4, 170), (4, 171), (4, 172), (4, 174), (4, 175), (4, 176), (4, 177), (4, 178), (4, 179), (4, 180)] rfl
set_option maxRecDepth 100000 in
theorem zlw_wsL_law0_r30 : ∀ w ∈ wsL_law0_r30, w ∈ lw_tbl := zin_parts [(4, 181), (4, 202), (4, 182), (4, 183), (4, 184), (4, 185), (4, 190), (4, 186), (4, 187), (4, 188), (4, 189), (4, 191), (4, 192), (4, 193), (4, 194), (4, 195), (4, 196), (4, 197), (4, 198), (4, 199), (4, 200), (1, 80), (4, 201), (4, 203)] rfl
set_option maxRecDepth 100000 in
theorem zlw_wsL_law0_r31 : ∀ w ∈ wsL_law0_r31, w ∈ lw_tbl := zin_parts [(4, 204), (4, 205), (4, 206), (4, 207), (4, 208), (4, 209), (4, 210), (4, 211), (4, 212), (4, 213), (4, 214), (4, 215), (4, 216), (4, 217), (4, 218), (4, 219), (4, 220), (4, 221), (4, 222), (4, 223), (4, 227), (4, 228), (4, 229), (4, 230)] rfl
set_option maxRecDepth 100000 in
theorem zlw_wsL_law0_r32 : ∀ w ∈ wsL_law0_r32, w ∈ lw_tbl := zin_parts [(4, 231), (4, 232), (4, 233), (4, 234), (4, 235), (4, 236), (5, 5), (5, 6), (4, 237), (4, 238), (4, 239), (5, 0), (5, 1), (5, 2), (5, 3), (5, 4), (5, 7), (5, 8), (5, 9), (5, 18), (5, 19), (5, 20), (5, 10), (5, 11)] rfl
set_option maxRecDepth 100000 in
theorem zlw_wsL_law0_r33 : ∀ w ∈ wsL_law0_r33, w ∈ lw_tbl := zin_parts [(5, 12), (5, 13), (5, 14), (5, 15), (5, 16), (5, 17), (5, 21), (5, 22), (5, 23), (5, 35), (5, 36), (5, 24), (5, 25), (5, 26), (5, 27), (5, 28), (5, 29), (5, 30), (5, 31), (5, 32), (5, 33), (5, 34), (4, 224), (4, 225)] rfl
set_option maxRecDepth 100000 in
theorem zlw_wsL_law0_r34 : ∀ w ∈ wsL_law0_r34, w ∈ lw_tbl := zin_parts [(4, 226), (5, 37), (5, 38), (5, 39), (5, 40), (5, 41), (5, 42), (5, 43), (5, 52), (5, 53), (5, 44), (5, 45), (5, 46), (5, 47), (5, 48), (5, 49), (5, 50), (5, 51)] rfl
set_option maxRecDepth 100000 in
theorem zlw_wsX90 : ∀ w ∈ wsX90, w ∈ lw_tbl := zin_parts [(1, 218), (1, 220), (1, 222), (1, 224), (1, 226), (1, 228), (1, 230), (1, 232)] rfl
set_option maxRecDepth 100000 in
theorem zlw_wsX40 : ∀ w ∈ wsX40, w ∈ lw_tbl := zin_parts [(1, 37)] rfl
set_option maxRecDepth 100000 in
theorem zlw_wsX50 : ∀ w ∈ wsX50, w ∈ lw_tbl := zin_parts [(1, 99), (1, 101), (1, 103)] rfl
set_option maxRecDepth 100000 in
theorem zlw_wsX00 : ∀ w ∈ wsX00, w ∈ lw_tbl := zin_parts [(1, 115)] rfl
set_option maxRecDepth 100000 in
theorem zlw_wsX20 : ∀ w ∈ wsX20, w ∈ lw_tbl := zin_parts [(1, 131), (1, 133), (1, 135), (1, 137)] rfl
set_option maxRecDepth 100000 in
theorem zlw_wsX60 : ∀ w ∈ wsX60, w ∈ lw_tbl := zin_parts [(1, 150), (1, 152)] rfl
set_option maxRecDepth 100000 in
theorem zlw_wsX70 : ∀ w ∈ wsX70, w ∈ lw_tbl := zin_parts [(1, 165), (1, 167), (1, 169)] rfl
set_option maxRecDepth 100000 in
theorem zlw_wsX30 : ∀ w ∈ wsX30, w ∈ lw_tbl := zin_parts [(1, 192), (1, 194), (1, 196), (1, 198), (1, 200), (1, 202), (1, 204), (1, 206)] rfl
set_option maxRecDepth 100000 in
theorem zlw_wsX10 : ∀ w ∈ wsX10, w ∈ lw_tbl := zin_parts [(1, 83), (1, 85), (1, 87), (1, 89), (1, 91), (1, 93)] rfl
set_option maxRecDepth 100000 in
theorem zlw_wsX80 : ∀ w ∈ wsX80, w ∈ lw_tbl := zin_parts [(1, 61), (1, 63), (1, 65)] rfl
theorem wsL_law_in0 : ∀ w ∈ wsL_law0, w ∈ lw_tbl := zapw (zapw (zapw (zapw (zapw (zapw (zapw (zapw (zapw (zapw (zapw (zapw zlw_wsL_law0_r1 (zapw zlw_wsL_law0_r2 (zapw zlw_wsL_law0_r3 (zapw zlw_wsL_law0_r4 (zapw zlw_wsL_law0_r5 (zapw zlw_wsL_law0_r6 (zapw zlw_wsL_law0_r7 (zapw zlw_wsL_law0_r8 (zapw zlw_wsL_law0_r9 (zapw zlw_wsL_law0_r10 (zapw zlw_wsL_law0_r11 (zapw zlw_wsL_law0_r12 (zapw zlw_wsL_law0_r13 (zapw zlw_wsL_law0_r14 (zapw zlw_wsL_law0_r15 (zapw zlw_wsL_law0_r16 (zapw zlw_wsL_law0_r17 (zapw zlw_wsL_law0_r18 (zapw zlw_wsL_law0_r19 (zapw zlw_wsL_law0_r20 (zapw zlw_wsL_law0_r21 (zapw zlw_wsL_law0_r22 (zapw zlw_wsL_law0_r23 (zapw zlw_wsL_law0_r24 (zapw zlw_wsL_law0_r25 (zapw zlw_wsL_law0_r26 (zapw zlw_wsL_law0_r27 (zapw zlw_wsL_law0_r28 (zapw zlw_wsL_law0_r29 (zapw zlw_wsL_law0_r30 (zapw zlw_wsL_law0_r31 (zapw zlw_wsL_law0_r32 (zapw zlw_wsL_law0_r33 (zlw_wsL_law0_r34)))))))))))))))))))))))))))))))))) zlw_wsX90) zlw_wsX40) zlw_wsX50) zlw_wsX00) zlw_wsX20) zlw_wsX60) zlw_wsX70) zlw_wsX30) zlw_wsX10) zlw_wsX80) (fun _ h => nomatch h)
theorem wsL_law_x0 : ∀ w ∈ (vx_atS RX9 285 "java/lang/IllegalArgumentException" ["java/lang/RuntimeException", "java/lang/Exception"]).filter goodWord, w ∈ lw_tbl := by decide +kernel
theorem wsL_law_x1 : ∀ w ∈ (vx_atS RX9 292 "java/lang/IllegalStateException" ["java/lang/RuntimeException", "java/lang/Exception"]).filter goodWord, w ∈ lw_tbl := by decide +kernel
theorem wsL_law_x2 : ∀ w ∈ (vx_atSX RX9 297 "java/util/NoSuchElementException" 13 zrx13 ["java/lang/RuntimeException", "java/lang/Exception"]).filter goodWord, w ∈ lw_tbl := by decide +kernel
theorem wsL_law_in : ∀ w ∈ wsL_law, w ∈ lw_tbl := fun w h => (List.mem_append.mp h).elim (fun h => (List.mem_append.mp h).elim (fun h => (List.mem_append.mp h).elim (fun h => wsL_law_in0 w h) (fun h => wsL_law_x0 w h)) (fun h => wsL_law_x1 w h)) (fun h => wsL_law_x2 w h)
theorem inlX0 : ∀ w ∈ wsX00, w ∈ wsL_law := fun _ h => List.mem_append_left _ (List.mem_append_left _ (List.mem_append_left _ (List.mem_append_left _ (List.mem_append_left _ (List.mem_append_left _ (List.mem_append_left _ (List.mem_append_left _ (List.mem_append_left _ (List.mem_append_left _ (List.mem_append_right _ h))))))))))
theorem inX0 : ∀ w ∈ wsX00, w ∈ lw_tbl := fun w h => wsL_law_in w (inlX0 w h)
theorem inlX1 : ∀ w ∈ wsX10, w ∈ wsL_law := fun _ h => List.mem_append_left _ (List.mem_append_left _ (List.mem_append_left _ (List.mem_append_left _ (List.mem_append_left _ (List.mem_append_right _ h)))))
theorem inX1 : ∀ w ∈ wsX10, w ∈ lw_tbl := fun w h => wsL_law_in w (inlX1 w h)
theorem inlX2 : ∀ w ∈ wsX20, w ∈ wsL_law := fun _ h => List.mem_append_left _ (List.mem_append_left _ (List.mem_append_left _ (List.mem_append_left _ (List.mem_append_left _ (List.mem_append_left _ (List.mem_append_left _ (List.mem_append_left _ (List.mem_append_left _ (List.mem_append_right _ h)))))))))
theorem inX2 : ∀ w ∈ wsX20, w ∈ lw_tbl := fun w h => wsL_law_in w (inlX2 w h)
theorem inlX3 : ∀ w ∈ wsX30, w ∈ wsL_law := fun _ h => List.mem_append_left _ (List.mem_append_left _ (List.mem_append_left _ (List.mem_append_left _ (List.mem_append_left _ (List.mem_append_left _ (List.mem_append_right _ h))))))
theorem inX3 : ∀ w ∈ wsX30, w ∈ lw_tbl := fun w h => wsL_law_in w (inlX3 w h)
theorem inlX4 : ∀ w ∈ wsX40, w ∈ wsL_law := fun _ h => List.mem_append_left _ (List.mem_append_left _ (List.mem_append_left _ (List.mem_append_left _ (List.mem_append_left _ (List.mem_append_left _ (List.mem_append_left _ (List.mem_append_left _ (List.mem_append_left _ (List.mem_append_left _ (List.mem_append_left _ (List.mem_append_left _ (List.mem_append_right _ h))))))))))))
theorem inX4 : ∀ w ∈ wsX40, w ∈ lw_tbl := fun w h => wsL_law_in w (inlX4 w h)
theorem inlX5 : ∀ w ∈ wsX50, w ∈ wsL_law := fun _ h => List.mem_append_left _ (List.mem_append_left _ (List.mem_append_left _ (List.mem_append_left _ (List.mem_append_left _ (List.mem_append_left _ (List.mem_append_left _ (List.mem_append_left _ (List.mem_append_left _ (List.mem_append_left _ (List.mem_append_left _ (List.mem_append_right _ h)))))))))))
theorem inX5 : ∀ w ∈ wsX50, w ∈ lw_tbl := fun w h => wsL_law_in w (inlX5 w h)
theorem inlX6 : ∀ w ∈ wsX60, w ∈ wsL_law := fun _ h => List.mem_append_left _ (List.mem_append_left _ (List.mem_append_left _ (List.mem_append_left _ (List.mem_append_left _ (List.mem_append_left _ (List.mem_append_left _ (List.mem_append_left _ (List.mem_append_right _ h))))))))
theorem inX6 : ∀ w ∈ wsX60, w ∈ lw_tbl := fun w h => wsL_law_in w (inlX6 w h)
theorem inlX7 : ∀ w ∈ wsX70, w ∈ wsL_law := fun _ h => List.mem_append_left _ (List.mem_append_left _ (List.mem_append_left _ (List.mem_append_left _ (List.mem_append_left _ (List.mem_append_left _ (List.mem_append_left _ (List.mem_append_right _ h)))))))
theorem inX7 : ∀ w ∈ wsX70, w ∈ lw_tbl := fun w h => wsL_law_in w (inlX7 w h)
theorem inlX8 : ∀ w ∈ wsX80, w ∈ wsL_law := fun _ h => List.mem_append_left _ (List.mem_append_left _ (List.mem_append_left _ (List.mem_append_left _ (List.mem_append_right _ h))))
theorem inX8 : ∀ w ∈ wsX80, w ∈ lw_tbl := fun w h => wsL_law_in w (inlX8 w h)
theorem inlX9 : ∀ w ∈ wsX90, w ∈ wsL_law := fun _ h => List.mem_append_left _ (List.mem_append_left _ (List.mem_append_left _ (List.mem_append_left _ (List.mem_append_left _ (List.mem_append_left _ (List.mem_append_left _ (List.mem_append_left _ (List.mem_append_left _ (List.mem_append_left _ (List.mem_append_left _ (List.mem_append_left _ (List.mem_append_left _ (List.mem_append_right _ h)))))))))))))
theorem inX9 : ∀ w ∈ wsX90, w ∈ lw_tbl := fun w h => wsL_law_in w (inlX9 w h)

set_option maxRecDepth 100000 in
theorem lo_13 (l : Launch) : nl_Ok l 13 2 1 ev_X5_row := ⟨yX5_row, cX5_row, 3, (some .int), 2, 47, (RX5, TX5, 13), mt_X5_row l, rfl, nk_msc [(1, 191), (1, 192), (1, 193), (1, 194), (1, 1)] (by decide +kernel), by decide +kernel, by decide, by decide⟩
set_option maxRecDepth 100000 in
theorem lo_17 (l : Launch) : nl_Ok l 17 2 2 ev_X6_row := ⟨yX6_row, cX6_row, 4, (some .int), 2, 42, (RX6, TX6, 32), mt_X6_row l, rfl, nk_msc [(4, 50), (4, 51), (4, 52), (4, 53), (1, 7)] (by decide +kernel), by decide +kernel, by decide, by decide⟩
set_option maxRecDepth 100000 in
theorem lo_18 (l : Launch) : nl_Ok l 18 3 1 ev_X5_lay := ⟨yX5_lay, cX5_lay, 5, (some .int), 2, 44, (RX5, TX5, 13), mt_X5_lay l, rfl, nk_msc [(1, 210), (1, 211), (1, 212), (1, 213), (1, 1)] (by decide +kernel), by decide +kernel, by decide, by decide⟩
set_option maxRecDepth 100000 in
theorem lo_22 (l : Launch) : nl_Ok l 22 3 2 ev_X6_lay := ⟨yX6_lay, cX6_lay, 5, (some .int), 4, 86, (RX6, TX6, 32), mt_X6_lay l, rfl, nk_msc [(4, 80), (4, 81), (4, 82), (4, 83), (1, 7)] (by decide +kernel), by decide +kernel, by decide, by decide⟩
set_option maxRecDepth 100000 in
theorem lo_23 (l : Launch) : nl_Ok l 23 2 1 ev_X5_at := ⟨yX5_at, cX5_at, 4, (some .int), 2, 44, (RX5, TX5, 13), mt_X5_at l, rfl, nk_msc [(1, 222), (1, 223), (1, 224), (1, 225), (1, 1)] (by decide +kernel), by decide +kernel, by decide, by decide⟩
set_option maxRecDepth 100000 in
theorem lo_26 (l : Launch) : nl_Ok l 26 2 2 ev_X6_at := ⟨yX6_at, cX6_at, 4, (some .int), 3, 63, (RX6, TX6, 32), mt_X6_at l, rfl, nk_msc [(4, 64), (4, 65), (4, 66), (4, 67), (1, 7)] (by decide +kernel), by decide +kernel, by decide, by decide⟩
set_option maxRecDepth 100000 in
theorem lo_27 (l : Launch) : nl_Ok l 27 1 1 ev_X5_tear := ⟨yX5_tear, cX5_tear, 2, (some .int), 1, 21, (RX5, TX5, 13), mt_X5_tear l, rfl, nk_msc [(1, 226), (1, 227), (1, 228), (1, 229), (1, 1)] (by decide +kernel), by decide +kernel, by decide, by decide⟩
set_option maxRecDepth 100000 in
theorem lo_31 (l : Launch) : nl_Ok l 31 1 2 ev_X6_tear := ⟨yX6_tear, cX6_tear, 3, (some .int), 3, 63, (RX6, TX6, 32), mt_X6_tear l, rfl, nk_msc [(4, 85), (4, 86), (4, 87), (4, 88), (1, 7)] (by decide +kernel), by decide +kernel, by decide, by decide⟩
set_option maxRecDepth 100000 in
theorem lo_32 (l : Launch) : nl_Ok l 32 5 1 ev_X5_copy := ⟨yX5_copy, cX5_copy, 8, (some .int), 1, 40, (RX5, TX5, 13), mt_X5_copy l, rfl, nk_msc [(1, 230), (1, 231), (1, 232), (1, 233), (1, 1)] (by decide +kernel), by decide +kernel, by decide, by decide⟩
set_option maxRecDepth 100000 in
theorem lo_36 (l : Launch) : nl_Ok l 36 5 2 ev_X6_copy := ⟨yX6_copy, cX6_copy, 7, (some .int), 2, 42, (RX6, TX6, 32), mt_X6_copy l, rfl, nk_msc [(4, 89), (4, 90), (4, 91), (4, 92), (1, 7)] (by decide +kernel), by decide +kernel, by decide, by decide⟩
set_option maxRecDepth 100000 in
theorem lo_37 (l : Launch) : nl_Ok l 37 1 1 ev_X5_mean := ⟨yX5_mean, cX5_mean, 3, (some .int), 1, 23, (RX5, TX5, 13), mt_X5_mean l, rfl, nk_msc [(2, 1), (2, 2), (2, 3), (2, 4), (1, 1)] (by decide +kernel), by decide +kernel, by decide, by decide⟩
set_option maxRecDepth 100000 in
theorem lo_40 (l : Launch) : nl_Ok l 40 1 2 ev_X6_mean := ⟨yX6_mean, cX6_mean, 6, (some .int), 3, 63, (RX6, TX6, 32), mt_X6_mean l, rfl, nk_msc [(4, 93), (4, 94), (4, 95), (4, 96), (1, 7)] (by decide +kernel), by decide +kernel, by decide, by decide⟩
set_option maxRecDepth 100000 in
theorem lo_41 (l : Launch) : nl_Ok l 41 2 1 ev_X5_text := ⟨yX5_text, cX5_text, 3, (some .int), 2, 47, (RX5, TX5, 13), mt_X5_text l, rfl, nk_msc [(2, 9), (2, 10), (2, 11), (2, 12), (1, 1)] (by decide +kernel), by decide +kernel, by decide, by decide⟩
set_option maxRecDepth 100000 in
theorem lo_44 (l : Launch) : nl_Ok l 44 2 2 ev_X6_text := ⟨yX6_text, cX6_text, 4, (some .int), 2, 42, (RX6, TX6, 32), mt_X6_text l, rfl, nk_msc [(4, 97), (4, 98), (4, 99), (4, 100), (1, 7)] (by decide +kernel), by decide +kernel, by decide, by decide⟩
set_option maxRecDepth 100000 in
theorem lo_45 (l : Launch) : nl_Ok l 45 3 1 ev_X5_put := ⟨yX5_put, cX5_put, 6, (some .int), 2, 44, (RX5, TX5, 13), mt_X5_put l, rfl, nk_msc [(2, 13), (2, 14), (2, 15), (2, 16), (1, 1)] (by decide +kernel), by decide +kernel, by decide, by decide⟩
set_option maxRecDepth 100000 in
theorem lo_48 (l : Launch) : nl_Ok l 48 3 2 ev_X6_put := ⟨yX6_put, cX6_put, 6, (some .int), 3, 63, (RX6, TX6, 32), mt_X6_put l, rfl, nk_msc [(4, 104), (4, 105), (4, 106), (4, 107), (1, 7)] (by decide +kernel), by decide +kernel, by decide, by decide⟩
set_option maxRecDepth 100000 in
theorem lo_49 (l : Launch) : nl_Ok l 49 4 1 ev_X5_stuff := ⟨yX5_stuff, cX5_stuff, 5, (some .int), 2, 44, (RX5, TX5, 13), mt_X5_stuff l, rfl, nk_msc [(2, 17), (2, 18), (2, 19), (2, 20), (1, 1)] (by decide +kernel), by decide +kernel, by decide, by decide⟩
set_option maxRecDepth 100000 in
theorem lo_53 (l : Launch) : nl_Ok l 53 4 2 ev_X6_stuff := ⟨yX6_stuff, cX6_stuff, 5, (some .int), 3, 65, (RX6, TX6, 32), mt_X6_stuff l, rfl, nk_msc [(4, 112), (4, 113), (4, 114), (4, 115), (1, 7)] (by decide +kernel), by decide +kernel, by decide, by decide⟩
set_option maxRecDepth 100000 in
theorem lo_54 (l : Launch) : nl_Ok l 54 1 1 ev_X5_stuffs := ⟨yX5_stuffs, cX5_stuffs, 5, (some .int), 2, 44, (RX5, TX5, 13), mt_X5_stuffs l, rfl, nk_msc [(2, 28), (2, 29), (2, 30), (2, 31), (1, 1)] (by decide +kernel), by decide +kernel, by decide, by decide⟩
set_option maxRecDepth 100000 in
theorem lo_57 (l : Launch) : nl_Ok l 57 1 2 ev_X6_stuffs := ⟨yX6_stuffs, cX6_stuffs, 6, (some .int), 3, 65, (RX6, TX6, 32), mt_X6_stuffs l, rfl, nk_msc [(4, 126), (4, 127), (4, 128), (4, 129), (1, 7)] (by decide +kernel), by decide +kernel, by decide, by decide⟩
set_option maxRecDepth 100000 in
theorem lo_58 (l : Launch) : nl_Ok l 58 2 1 ev_X5_debt := ⟨yX5_debt, cX5_debt, 4, (some .int), 2, 42, (RX5, TX5, 13), mt_X5_debt l, rfl, nk_msc [(2, 32), (2, 33), (2, 34), (2, 35), (1, 1)] (by decide +kernel), by decide +kernel, by decide, by decide⟩
set_option maxRecDepth 100000 in
theorem lo_61 (l : Launch) : nl_Ok l 61 2 2 ev_X6_debt := ⟨yX6_debt, cX6_debt, 4, (some .int), 2, 43, (RX6, TX6, 32), mt_X6_debt l, rfl, nk_msc [(4, 130), (4, 131), (4, 132), (4, 133), (1, 7)] (by decide +kernel), by decide +kernel, by decide, by decide⟩
set_option maxRecDepth 100000 in
theorem lo_62 (l : Launch) : nl_Ok l 62 7 1 ev_X5_making := ⟨yX5_making, cX5_making, 9, (some .int), 3, 65, (RX5, TX5, 13), mt_X5_making l, rfl, nk_msc [(2, 48), (2, 49), (2, 50), (2, 51), (1, 1)] (by decide +kernel), by decide +kernel, by decide, by decide⟩
set_option maxRecDepth 100000 in
theorem lo_66 (l : Launch) : nl_Ok l 66 7 2 ev_X6_making := ⟨yX6_making, cX6_making, 9, (some .int), 3, 66, (RX6, TX6, 32), mt_X6_making l, rfl, nk_msc [(4, 138), (4, 139), (4, 140), (4, 141), (1, 7)] (by decide +kernel), by decide +kernel, by decide, by decide⟩
set_option maxRecDepth 100000 in
theorem lo_67 (l : Launch) : nl_Ok l 67 2 1 ev_X5_about := ⟨yX5_about, cX5_about, 3, (some .int), 2, 42, (RX5, TX5, 13), mt_X5_about l, rfl, nk_msc [(2, 66), (2, 67), (2, 68), (2, 69), (1, 1)] (by decide +kernel), by decide +kernel, by decide, by decide⟩
set_option maxRecDepth 100000 in
theorem lo_70 (l : Launch) : nl_Ok l 70 2 2 ev_X6_about := ⟨yX6_about, cX6_about, 3, (some .int), 2, 43, (RX6, TX6, 32), mt_X6_about l, rfl, nk_msc [(4, 152), (4, 153), (4, 154), (4, 155), (1, 7)] (by decide +kernel), by decide +kernel, by decide, by decide⟩
set_option maxRecDepth 100000 in
theorem lo_71 (l : Launch) : nl_Ok l 71 2 1 ev_X5_told := ⟨yX5_told, cX5_told, 3, (some .int), 2, 42, (RX5, TX5, 13), mt_X5_told l, rfl, nk_msc [(2, 70), (2, 71), (2, 72), (2, 73), (1, 1)] (by decide +kernel), by decide +kernel, by decide, by decide⟩
set_option maxRecDepth 100000 in
theorem lo_74 (l : Launch) : nl_Ok l 74 2 2 ev_X6_told := ⟨yX6_told, cX6_told, 3, (some .int), 2, 43, (RX6, TX6, 32), mt_X6_told l, rfl, nk_msc [(4, 156), (4, 157), (4, 158), (4, 159), (1, 7)] (by decide +kernel), by decide +kernel, by decide, by decide⟩
set_option maxRecDepth 100000 in
theorem lo_75 (l : Launch) : nl_Ok l 75 2 1 ev_X5_mark := ⟨yX5_mark, cX5_mark, 4, (some .int), 6, 149, (RX5, TX5, 13), mt_X5_mark l, rfl, nk_msc [(2, 82), (2, 83), (2, 84), (2, 85), (1, 1)] (by decide +kernel), by decide +kernel, by decide, by decide⟩
set_option maxRecDepth 100000 in
theorem lo_78 (l : Launch) : nl_Ok l 78 2 2 ev_X6_mark := ⟨yX6_mark, cX6_mark, 4, (some .int), 6, 159, (RX6, TX6, 32), mt_X6_mark l, rfl, nk_msc [(4, 204), (4, 205), (4, 206), (4, 207), (1, 7)] (by decide +kernel), by decide +kernel, by decide, by decide⟩
set_option maxRecDepth 100000 in
theorem lo_79 (l : Launch) : nl_Ok l 79 1 1 ev_X5_fault := ⟨yX5_fault, cX5_fault, 2, (some .int), 2, 45, (RX5, TX5, 13), mt_X5_fault l, rfl, nk_msc [(2, 166), (2, 167), (2, 168), (2, 169), (1, 1)] (by decide +kernel), by decide +kernel, by decide, by decide⟩
set_option maxRecDepth 100000 in
theorem lo_82 (l : Launch) : nl_Ok l 82 1 2 ev_X6_fault := ⟨yX6_fault, cX6_fault, 3, (some .int), 3, 63, (RX6, TX6, 32), mt_X6_fault l, rfl, nk_msc [(4, 168), (4, 169), (4, 170), (4, 171), (1, 7)] (by decide +kernel), by decide +kernel, by decide, by decide⟩
set_option maxRecDepth 100000 in
theorem lo_83 (l : Launch) : nl_Ok l 83 2 1 ev_X5_laws := ⟨yX5_laws, cX5_laws, 3, (some .int), 2, 45, (RX5, TX5, 13), mt_X5_laws l, rfl, nk_msc [(2, 184), (2, 185), (2, 186), (2, 187), (1, 1)] (by decide +kernel), by decide +kernel, by decide, by decide⟩
set_option maxRecDepth 100000 in
theorem lo_86 (l : Launch) : nl_Ok l 86 2 2 ev_X6_laws := ⟨yX6_laws, cX6_laws, 4, (some .int), 3, 63, (RX6, TX6, 32), mt_X6_laws l, rfl, nk_msc [(4, 189), (4, 190), (4, 191), (4, 192), (1, 7)] (by decide +kernel), by decide +kernel, by decide, by decide⟩
set_option maxRecDepth 100000 in
theorem lo_87 (l : Launch) : nl_Ok l 87 1 1 ev_X5_law := ⟨yX5_law, cX5_law, 2, (some .int), 1, 21, (RX5, TX5, 13), mt_X5_law l, rfl, nk_msc [(2, 192), (2, 193), (2, 194), (2, 195), (1, 1)] (by decide +kernel), by decide +kernel, by decide, by decide⟩
set_option maxRecDepth 100000 in
theorem lo_90 (l : Launch) : nl_Ok l 90 1 2 ev_X6_law := ⟨yX6_law, cX6_law, 3, (some .int), 3, 63, (RX6, TX6, 32), mt_X6_law l, rfl, nk_msc [(4, 196), (4, 197), (4, 198), (4, 199), (1, 7)] (by decide +kernel), by decide +kernel, by decide, by decide⟩
set_option maxRecDepth 100000 in
theorem lo_91 (l : Launch) : nl_Ok l 91 2 1 ev_X5_inside := ⟨yX5_inside, cX5_inside, 3, (some .int), 6, 149, (RX5, TX5, 13), mt_X5_inside l, rfl, nk_msc [(2, 196), (2, 197), (2, 198), (2, 199), (1, 1)] (by decide +kernel), by decide +kernel, by decide, by decide⟩
set_option maxRecDepth 100000 in
theorem lo_94 (l : Launch) : nl_Ok l 94 2 2 ev_X6_inside := ⟨yX6_inside, cX6_inside, 3, (some .int), 6, 159, (RX6, TX6, 32), mt_X6_inside l, rfl, nk_msc [(5, 11), (5, 12), (5, 13), (5, 14), (1, 7)] (by decide +kernel), by decide +kernel, by decide, by decide⟩
set_option maxRecDepth 100000 in
theorem lo_95 (l : Launch) : nl_Ok l 95 3 1 ev_X5_now := ⟨yX5_now, cX5_now, 5, (some .int), 6, 149, (RX5, TX5, 13), mt_X5_now l, rfl, nk_msc [(2, 204), (2, 205), (2, 206), (2, 207), (1, 1)] (by decide +kernel), by decide +kernel, by decide, by decide⟩
set_option maxRecDepth 100000 in
theorem lo_98 (l : Launch) : nl_Ok l 98 3 2 ev_X6_now := ⟨yX6_now, cX6_now, 7, (some .int), 6, 159, (RX6, TX6, 32), mt_X6_now l, rfl, nk_msc [(5, 19), (5, 20), (5, 21), (5, 22), (1, 7)] (by decide +kernel), by decide +kernel, by decide, by decide⟩
set_option maxRecDepth 100000 in
theorem lo_99 (l : Launch) : nl_Ok l 99 5 1 ev_X5_whose := ⟨yX5_whose, cX5_whose, 8, (some .int), 6, 153, (RX5, TX5, 13), mt_X5_whose l, rfl, nk_msc [(2, 212), (2, 213), (2, 214), (2, 215), (1, 1)] (by decide +kernel), by decide +kernel, by decide, by decide⟩
set_option maxRecDepth 100000 in
theorem lo_102 (l : Launch) : nl_Ok l 102 5 2 ev_X6_whose := ⟨yX6_whose, cX6_whose, 9, (some .int), 6, 159, (RX6, TX6, 32), mt_X6_whose l, rfl, nk_msc [(5, 23), (5, 24), (5, 25), (5, 26), (1, 7)] (by decide +kernel), by decide +kernel, by decide, by decide⟩
set_option maxRecDepth 100000 in
theorem lo_103 (l : Launch) : nl_Ok l 103 4 1 ev_X5_owners := ⟨yX5_owners, cX5_owners, 8, (some .int), 6, 153, (RX5, TX5, 13), mt_X5_owners l, rfl, nk_msc [(2, 233), (2, 234), (2, 235), (2, 236), (1, 1)] (by decide +kernel), by decide +kernel, by decide, by decide⟩
set_option maxRecDepth 100000 in
theorem lo_106 (l : Launch) : nl_Ok l 106 4 2 ev_X6_owners := ⟨yX6_owners, cX6_owners, 6, (some .int), 6, 159, (RX6, TX6, 32), mt_X6_owners l, rfl, nk_msc [(5, 38), (5, 39), (5, 40), (5, 41), (1, 7)] (by decide +kernel), by decide +kernel, by decide, by decide⟩
set_option maxRecDepth 100000 in
theorem lo_107 (l : Launch) : nl_Ok l 107 4 1 ev_X5_changes := ⟨yX5_changes, cX5_changes, 12, (some .int), 6, 153, (RX5, TX5, 13), mt_X5_changes l, rfl, nk_msc [(2, 237), (2, 238), (2, 239), (3, 0), (1, 1)] (by decide +kernel), by decide +kernel, by decide, by decide⟩
set_option maxRecDepth 100000 in
theorem lo_110 (l : Launch) : nl_Ok l 110 4 2 ev_X6_changes := ⟨yX6_changes, cX6_changes, 11, (some .int), 6, 159, (RX6, TX6, 32), mt_X6_changes l, rfl, nk_msc [(5, 46), (5, 47), (5, 48), (5, 49), (1, 7)] (by decide +kernel), by decide +kernel, by decide, by decide⟩
set_option maxRecDepth 100000 in
theorem lo_111 (l : Launch) : nl_Ok l 111 4 1 ev_X5_lost := ⟨yX5_lost, cX5_lost, 23, (some .int), 6, 153, (RX5, TX5, 13), mt_X5_lost l, rfl, nk_msc [(3, 2), (3, 3), (3, 4), (3, 5), (1, 1)] (by decide +kernel), by decide +kernel, by decide, by decide⟩
set_option maxRecDepth 100000 in
theorem lo_114 (l : Launch) : nl_Ok l 114 4 2 ev_X6_lost := ⟨yX6_lost, cX6_lost, 21, (some .int), 6, 159, (RX6, TX6, 32), mt_X6_lost l, rfl, nk_msc [(5, 50), (5, 51), (5, 52), (5, 53), (1, 7)] (by decide +kernel), by decide +kernel, by decide, by decide⟩
set_option maxRecDepth 100000 in
theorem lo_115 (l : Launch) : nl_Ok l 115 3 1 ev_X5_beside := ⟨yX5_beside, cX5_beside, 5, (some .int), 4, 105, (RX5, TX5, 13), mt_X5_beside l, rfl, nk_msc [(3, 6), (3, 7), (3, 8), (3, 9), (1, 1)] (by decide +kernel), by decide +kernel, by decide, by decide⟩
set_option maxRecDepth 100000 in
theorem lo_118 (l : Launch) : nl_Ok l 118 3 2 ev_X6_beside := ⟨yX6_beside, cX6_beside, 6, (some .int), 6, 159, (RX6, TX6, 32), mt_X6_beside l, rfl, nk_msc [(5, 54), (5, 55), (5, 56), (5, 57), (1, 7)] (by decide +kernel), by decide +kernel, by decide, by decide⟩
set_option maxRecDepth 100000 in
theorem lo_119 (l : Launch) : nl_Ok l 119 2 1 ev_X5_undo := ⟨yX5_undo, cX5_undo, 6, (some .int), 6, 149, (RX5, TX5, 13), mt_X5_undo l, rfl, nk_msc [(3, 14), (3, 15), (3, 16), (3, 17), (1, 1)] (by decide +kernel), by decide +kernel, by decide, by decide⟩
set_option maxRecDepth 100000 in
theorem lo_122 (l : Launch) : nl_Ok l 122 2 2 ev_X6_undo := ⟨yX6_undo, cX6_undo, 8, (some .int), 6, 159, (RX6, TX6, 32), mt_X6_undo l, rfl, nk_msc [(5, 62), (5, 63), (5, 64), (5, 65), (1, 7)] (by decide +kernel), by decide +kernel, by decide, by decide⟩
set_option maxRecDepth 100000 in
theorem lo_123 (l : Launch) : nl_Ok l 123 4 1 ev_X5_sure := ⟨yX5_sure, cX5_sure, 6, (some .int), 7, 180, (RX5, TX5, 13), mt_X5_sure l, rfl, nk_msc [(3, 22), (3, 23), (3, 24), (3, 25), (1, 1)] (by decide +kernel), by decide +kernel, by decide, by decide⟩
set_option maxRecDepth 100000 in
theorem lo_126 (l : Launch) : nl_Ok l 126 4 2 ev_X6_sure := ⟨yX6_sure, cX6_sure, 6, (some .int), 8, 211, (RX6, TX6, 32), mt_X6_sure l, rfl, nk_msc [(5, 66), (5, 67), (5, 68), (5, 69), (1, 7)] (by decide +kernel), by decide +kernel, by decide, by decide⟩
set_option maxRecDepth 100000 in
theorem lo_127 (l : Launch) : nl_Ok l 127 4 1 ev_X5_hangs := ⟨yX5_hangs, cX5_hangs, 8, (some .int), 7, 180, (RX5, TX5, 13), mt_X5_hangs l, rfl, nk_msc [(3, 31), (3, 32), (3, 33), (3, 34), (1, 1)] (by decide +kernel), by decide +kernel, by decide, by decide⟩
set_option maxRecDepth 100000 in
theorem lo_130 (l : Launch) : nl_Ok l 130 4 2 ev_X6_hangs := ⟨yX6_hangs, cX6_hangs, 10, (some .int), 8, 211, (RX6, TX6, 32), mt_X6_hangs l, rfl, nk_msc [(5, 79), (5, 80), (5, 81), (5, 82), (1, 7)] (by decide +kernel), by decide +kernel, by decide, by decide⟩
set_option maxRecDepth 100000 in
theorem lo_131 (l : Launch) : nl_Ok l 131 4 1 ev_X5_sly := ⟨yX5_sly, cX5_sly, 6, (some .int), 6, 153, (RX5, TX5, 13), mt_X5_sly l, rfl, nk_msc [(3, 44), (3, 45), (3, 46), (3, 47), (1, 1)] (by decide +kernel), by decide +kernel, by decide, by decide⟩
set_option maxRecDepth 100000 in
theorem lo_134 (l : Launch) : nl_Ok l 134 4 2 ev_X6_sly := ⟨yX6_sly, cX6_sly, 6, (some .int), 7, 184, (RX6, TX6, 32), mt_X6_sly l, rfl, nk_msc [(5, 86), (5, 87), (5, 88), (5, 89), (1, 7)] (by decide +kernel), by decide +kernel, by decide, by decide⟩
set_option maxRecDepth 100000 in
theorem lo_135 (l : Launch) : nl_Ok l 135 4 1 ev_X5_stop := ⟨yX5_stop, cX5_stop, 9, (some .int), 6, 153, (RX5, TX5, 13), mt_X5_stop l, rfl, nk_msc [(3, 60), (3, 61), (3, 62), (3, 63), (1, 1)] (by decide +kernel), by decide +kernel, by decide, by decide⟩
set_option maxRecDepth 100000 in
theorem lo_138 (l : Launch) : nl_Ok l 138 4 2 ev_X6_stop := ⟨yX6_stop, cX6_stop, 11, (some .int), 7, 184, (RX6, TX6, 32), mt_X6_stop l, rfl, nk_msc [(5, 102), (5, 103), (5, 104), (5, 105), (1, 7)] (by decide +kernel), by decide +kernel, by decide, by decide⟩
set_option maxRecDepth 100000 in
theorem lo_139 (l : Launch) : nl_Ok l 139 3 1 ev_X5_inTime := ⟨yX5_inTime, cX5_inTime, 6, (some .int), 6, 153, (RX5, TX5, 13), mt_X5_inTime l, rfl, nk_msc [(3, 74), (3, 75), (3, 76), (3, 77), (1, 1)] (by decide +kernel), by decide +kernel, by decide, by decide⟩
set_option maxRecDepth 100000 in
theorem lo_142 (l : Launch) : nl_Ok l 142 3 2 ev_X6_inTime := ⟨yX6_inTime, cX6_inTime, 6, (some .int), 7, 184, (RX6, TX6, 32), mt_X6_inTime l, rfl, nk_msc [(5, 109), (5, 110), (5, 111), (5, 112), (1, 7)] (by decide +kernel), by decide +kernel, by decide, by decide⟩
set_option maxRecDepth 100000 in
theorem lo_143 (l : Launch) : nl_Ok l 143 3 1 ev_X5_heap := ⟨yX5_heap, cX5_heap, 4, (some .int), 1, 22, (RX5, TX5, 13), mt_X5_heap l, rfl, nk_msc [(3, 78), (3, 79), (3, 80), (3, 81), (1, 1)] (by decide +kernel), by decide +kernel, by decide, by decide⟩
set_option maxRecDepth 100000 in
theorem lo_146 (l : Launch) : nl_Ok l 146 3 2 ev_X6_heap := ⟨yX6_heap, cX6_heap, 4, (some .int), 2, 42, (RX6, TX6, 32), mt_X6_heap l, rfl, nk_msc [(5, 113), (5, 114), (5, 115), (5, 116), (1, 7)] (by decide +kernel), by decide +kernel, by decide, by decide⟩
set_option maxRecDepth 100000 in
theorem lo_147 (l : Launch) : nl_Ok l 147 4 1 ev_X5_draw := ⟨yX5_draw, cX5_draw, 6, (some .int), 3, 68, (RX5, TX5, 13), mt_X5_draw l, rfl, nk_msc [(3, 86), (3, 87), (3, 88), (3, 89), (1, 1)] (by decide +kernel), by decide +kernel, by decide, by decide⟩
set_option maxRecDepth 100000 in
theorem lo_150 (l : Launch) : nl_Ok l 150 4 2 ev_X6_draw := ⟨yX6_draw, cX6_draw, 10, (some .int), 2, 42, (RX6, TX6, 32), mt_X6_draw l, rfl, nk_msc [(5, 120), (5, 121), (5, 122), (5, 123), (1, 7)] (by decide +kernel), by decide +kernel, by decide, by decide⟩
set_option maxRecDepth 100000 in
theorem lo_151 (l : Launch) : nl_Ok l 151 2 1 ev_X5_left := ⟨yX5_left, cX5_left, 3, (some .int), 1, 23, (RX5, TX5, 13), mt_X5_left l, rfl, nk_msc [(3, 118), (3, 119), (3, 120), (3, 121), (1, 1)] (by decide +kernel), by decide +kernel, by decide, by decide⟩
set_option maxRecDepth 100000 in
theorem lo_154 (l : Launch) : nl_Ok l 154 2 2 ev_X6_left := ⟨yX6_left, cX6_left, 3, (some .int), 2, 42, (RX6, TX6, 32), mt_X6_left l, rfl, nk_msc [(5, 132), (5, 133), (5, 134), (5, 135), (1, 7)] (by decide +kernel), by decide +kernel, by decide, by decide⟩
set_option maxRecDepth 100000 in
theorem lo_155 (l : Launch) : nl_Ok l 155 2 1 ev_X5_layer := ⟨yX5_layer, cX5_layer, 3, (some .int), 1, 21, (RX5, TX5, 13), mt_X5_layer l, rfl, nk_msc [(3, 126), (3, 127), (3, 128), (3, 129), (1, 1)] (by decide +kernel), by decide +kernel, by decide, by decide⟩
set_option maxRecDepth 100000 in
theorem lo_158 (l : Launch) : nl_Ok l 158 2 2 ev_X6_layer := ⟨yX6_layer, cX6_layer, 3, (some .int), 2, 42, (RX6, TX6, 32), mt_X6_layer l, rfl, nk_msc [(5, 136), (5, 137), (5, 138), (5, 139), (1, 7)] (by decide +kernel), by decide +kernel, by decide, by decide⟩
set_option maxRecDepth 100000 in
theorem lo_159 (l : Launch) : nl_Ok l 159 0 1 ev_X5_asked := ⟨yX5_asked, cX5_asked, 1, (some .int), 0, 0, (RX5, TX5, 13), mt_X5_asked l, rfl, nk_msc [(3, 134), (3, 135), (3, 136), (3, 137), (1, 1)] (by decide +kernel), by decide +kernel, by decide, by decide⟩
set_option maxRecDepth 100000 in
theorem lo_163 (l : Launch) : nl_Ok l 163 0 2 ev_X6_asked := ⟨yX6_asked, cX6_asked, 1, (some .int), 0, 0, (RX6, TX6, 32), mt_X6_asked l, rfl, nk_msc [(5, 140), (5, 141), (5, 142), (5, 143), (1, 7)] (by decide +kernel), by decide +kernel, by decide, by decide⟩
set_option maxRecDepth 100000 in
theorem lo_164 (l : Launch) : nl_Ok l 164 0 1 ev_X5_upper := ⟨yX5_upper, cX5_upper, 1, (some .long), 0, 0, (RX5, TX5, 13), mt_X5_upper l, rfl, nk_msc [(3, 138), (3, 139), (3, 140), (3, 141), (1, 1)] (by decide +kernel), by decide +kernel, by decide, by decide⟩
set_option maxRecDepth 100000 in
theorem lo_168 (l : Launch) : nl_Ok l 168 0 2 ev_X6_upper := ⟨yX6_upper, cX6_upper, 1, (some .long), 0, 0, (RX6, TX6, 32), mt_X6_upper l, rfl, nk_msc [(5, 144), (5, 145), (5, 146), (5, 147), (1, 7)] (by decide +kernel), by decide +kernel, by decide, by decide⟩
set_option maxRecDepth 100000 in
theorem lo_169 (l : Launch) : nl_Ok l 169 0 1 ev_X5_lower := ⟨yX5_lower, cX5_lower, 1, (some .long), 0, 0, (RX5, TX5, 13), mt_X5_lower l, rfl, nk_msc [(3, 142), (3, 143), (3, 144), (3, 145), (1, 1)] (by decide +kernel), by decide +kernel, by decide, by decide⟩
set_option maxRecDepth 100000 in
theorem lo_172 (l : Launch) : nl_Ok l 172 0 2 ev_X6_lower := ⟨yX6_lower, cX6_lower, 1, (some .long), 0, 0, (RX6, TX6, 32), mt_X6_lower l, rfl, nk_msc [(5, 148), (5, 149), (5, 150), (5, 151), (1, 7)] (by decide +kernel), by decide +kernel, by decide, by decide⟩
set_option maxRecDepth 100000 in
theorem lo_173 (l : Launch) : nl_Ok l 173 1 1 ev_X5_count := ⟨yX5_count, cX5_count, 2, (some .int), 3, 68, (RX5, TX5, 13), mt_X5_count l, rfl, nk_msc [(3, 146), (3, 147), (3, 148), (3, 149), (1, 1)] (by decide +kernel), by decide +kernel, by decide, by decide⟩
set_option maxRecDepth 100000 in
theorem lo_176 (l : Launch) : nl_Ok l 176 1 2 ev_X6_count := ⟨yX6_count, cX6_count, 2, (some .int), 2, 46, (RX6, TX6, 32), mt_X6_count l, rfl, nk_msc [(5, 152), (5, 153), (5, 154), (5, 155), (1, 7)] (by decide +kernel), by decide +kernel, by decide, by decide⟩
set_option maxRecDepth 100000 in
theorem lo_177 (l : Launch) : nl_Ok l 177 0 1 ev_X5_finding := ⟨yX5_finding, cX5_finding, 1, (some .int), 0, 0, (RX5, TX5, 13), mt_X5_finding l, rfl, nk_msc [(3, 157), (3, 158), (3, 159), (3, 160), (1, 1)] (by decide +kernel), by decide +kernel, by decide, by decide⟩
set_option maxRecDepth 100000 in
theorem lo_180 (l : Launch) : nl_Ok l 180 0 2 ev_X6_finding := ⟨yX6_finding, cX6_finding, 1, (some .int), 0, 0, (RX6, TX6, 32), mt_X6_finding l, rfl, nk_msc [(5, 160), (5, 161), (5, 162), (5, 163), (1, 7)] (by decide +kernel), by decide +kernel, by decide, by decide⟩
set_option maxRecDepth 100000 in
theorem lo_181 (l : Launch) : nl_Ok l 181 1 1 ev_X5_findings := ⟨yX5_findings, cX5_findings, 2, (some .int), 0, 0, (RX5, TX5, 13), mt_X5_findings l, rfl, nk_msc [(3, 161), (3, 162), (3, 163), (3, 164), (1, 1)] (by decide +kernel), by decide +kernel, by decide, by decide⟩
set_option maxRecDepth 100000 in
theorem lo_184 (l : Launch) : nl_Ok l 184 1 2 ev_X6_findings := ⟨yX6_findings, cX6_findings, 2, (some .int), 1, 22, (RX6, TX6, 32), mt_X6_findings l, rfl, nk_msc [(5, 164), (5, 165), (5, 166), (5, 167), (1, 7)] (by decide +kernel), by decide +kernel, by decide, by decide⟩
set_option maxRecDepth 100000 in
theorem lo_185 (l : Launch) : nl_Ok l 185 0 1 ev_X5_digest := ⟨yX5_digest, cX5_digest, 4, (some .long), 3, 68, (RX5, TX5, 13), mt_X5_digest l, rfl, nk_msc [(3, 165), (3, 166), (3, 167), (3, 168), (1, 1)] (by decide +kernel), by decide +kernel, by decide, by decide⟩
set_option maxRecDepth 100000 in
theorem lo_188 (l : Launch) : nl_Ok l 188 0 2 ev_X6_digest := ⟨yX6_digest, cX6_digest, 3, (some .long), 2, 46, (RX6, TX6, 32), mt_X6_digest l, rfl, nk_msc [(5, 168), (5, 169), (5, 170), (5, 171), (1, 7)] (by decide +kernel), by decide +kernel, by decide, by decide⟩
noncomputable def kC_L : List (Nat × Nat × Nat × nk_Ev) := [(13, 3, 1, ev_X5_row), (17, 3, 2, ev_X6_row), (18, 4, 1, ev_X5_lay), (22, 4, 2, ev_X6_lay), (23, 3, 1, ev_X5_at), (26, 3, 2, ev_X6_at), (27, 2, 1, ev_X5_tear), (31, 2, 2, ev_X6_tear), (32, 6, 1, ev_X5_copy), (36, 6, 2, ev_X6_copy), (37, 2, 1, ev_X5_mean), (40, 2, 2, ev_X6_mean), (41, 3, 1, ev_X5_text), (44, 3, 2, ev_X6_text), (45, 4, 1, ev_X5_put), (48, 4, 2, ev_X6_put), (49, 5, 1, ev_X5_stuff), (53, 5, 2, ev_X6_stuff), (54, 2, 1, ev_X5_stuffs), (57, 2, 2, ev_X6_stuffs), (58, 3, 1, ev_X5_debt), (61, 3, 2, ev_X6_debt), (62, 8, 1, ev_X5_making), (66, 8, 2, ev_X6_making), (67, 3, 1, ev_X5_about), (70, 3, 2, ev_X6_about), (71, 3, 1, ev_X5_told), (74, 3, 2, ev_X6_told), (75, 3, 1, ev_X5_mark), (78, 3, 2, ev_X6_mark), (79, 2, 1, ev_X5_fault), (82, 2, 2, ev_X6_fault), (83, 3, 1, ev_X5_laws), (86, 3, 2, ev_X6_laws), (87, 2, 1, ev_X5_law), (90, 2, 2, ev_X6_law), (91, 3, 1, ev_X5_inside), (94, 3, 2, ev_X6_inside), (95, 4, 1, ev_X5_now), (98, 4, 2, ev_X6_now), (99, 6, 1, ev_X5_whose), (102, 6, 2, ev_X6_whose), (103, 5, 1, ev_X5_owners), (106, 5, 2, ev_X6_owners), (107, 5, 1, ev_X5_changes), (110, 5, 2, ev_X6_changes), (111, 5, 1, ev_X5_lost), (114, 5, 2, ev_X6_lost), (115, 4, 1, ev_X5_beside), (118, 4, 2, ev_X6_beside), (119, 3, 1, ev_X5_undo), (122, 3, 2, ev_X6_undo), (123, 5, 1, ev_X5_sure), (126, 5, 2, ev_X6_sure), (127, 5, 1, ev_X5_hangs), (130, 5, 2, ev_X6_hangs), (131, 5, 1, ev_X5_sly), (134, 5, 2, ev_X6_sly), (135, 5, 1, ev_X5_stop), (138, 5, 2, ev_X6_stop), (139, 4, 1, ev_X5_inTime), (142, 4, 2, ev_X6_inTime), (143, 4, 1, ev_X5_heap), (146, 4, 2, ev_X6_heap), (147, 5, 1, ev_X5_draw), (150, 5, 2, ev_X6_draw), (151, 3, 1, ev_X5_left), (154, 3, 2, ev_X6_left), (155, 3, 1, ev_X5_layer), (158, 3, 2, ev_X6_layer), (159, 1, 1, ev_X5_asked), (163, 1, 2, ev_X6_asked), (164, 1, 1, ev_X5_upper), (168, 1, 2, ev_X6_upper), (169, 1, 1, ev_X5_lower), (172, 1, 2, ev_X6_lower), (173, 2, 1, ev_X5_count), (176, 2, 2, ev_X6_count), (177, 1, 1, ev_X5_finding), (180, 1, 2, ev_X6_finding), (181, 2, 1, ev_X5_findings), (184, 2, 2, ev_X6_findings), (185, 1, 1, ev_X5_digest), (188, 1, 2, ev_X6_digest)]
theorem kC_ok (l : Launch) : ∀ q ∈ kC_L, ∃ n, q.2.1 = n + 1 ∧ (q.2.2.1 = 1 ∨ q.2.2.1 = 2) ∧ nl_Ok l q.1 n q.2.2.1 q.2.2.2 := List.forall_mem_cons.mpr ⟨⟨2, rfl, Or.inl rfl, lo_13 l⟩, List.forall_mem_cons.mpr ⟨⟨2, rfl, Or.inr rfl, lo_17 l⟩, List.forall_mem_cons.mpr ⟨⟨3, rfl, Or.inl rfl, lo_18 l⟩, List.forall_mem_cons.mpr ⟨⟨3, rfl, Or.inr rfl, lo_22 l⟩, List.forall_mem_cons.mpr ⟨⟨2, rfl, Or.inl rfl, lo_23 l⟩, List.forall_mem_cons.mpr ⟨⟨2, rfl, Or.inr rfl, lo_26 l⟩, List.forall_mem_cons.mpr ⟨⟨1, rfl, Or.inl rfl, lo_27 l⟩, List.forall_mem_cons.mpr ⟨⟨1, rfl, Or.inr rfl, lo_31 l⟩, List.forall_mem_cons.mpr ⟨⟨5, rfl, Or.inl rfl, lo_32 l⟩, List.forall_mem_cons.mpr ⟨⟨5, rfl, Or.inr rfl, lo_36 l⟩, List.forall_mem_cons.mpr ⟨⟨1, rfl, Or.inl rfl, lo_37 l⟩, List.forall_mem_cons.mpr ⟨⟨1, rfl, Or.inr rfl, lo_40 l⟩, List.forall_mem_cons.mpr ⟨⟨2, rfl, Or.inl rfl, lo_41 l⟩, List.forall_mem_cons.mpr ⟨⟨2, rfl, Or.inr rfl, lo_44 l⟩, List.forall_mem_cons.mpr ⟨⟨3, rfl, Or.inl rfl, lo_45 l⟩, List.forall_mem_cons.mpr ⟨⟨3, rfl, Or.inr rfl, lo_48 l⟩, List.forall_mem_cons.mpr ⟨⟨4, rfl, Or.inl rfl, lo_49 l⟩, List.forall_mem_cons.mpr ⟨⟨4, rfl, Or.inr rfl, lo_53 l⟩, List.forall_mem_cons.mpr ⟨⟨1, rfl, Or.inl rfl, lo_54 l⟩, List.forall_mem_cons.mpr ⟨⟨1, rfl, Or.inr rfl, lo_57 l⟩, List.forall_mem_cons.mpr ⟨⟨2, rfl, Or.inl rfl, lo_58 l⟩, List.forall_mem_cons.mpr ⟨⟨2, rfl, Or.inr rfl, lo_61 l⟩, List.forall_mem_cons.mpr ⟨⟨7, rfl, Or.inl rfl, lo_62 l⟩, List.forall_mem_cons.mpr ⟨⟨7, rfl, Or.inr rfl, lo_66 l⟩, List.forall_mem_cons.mpr ⟨⟨2, rfl, Or.inl rfl, lo_67 l⟩, List.forall_mem_cons.mpr ⟨⟨2, rfl, Or.inr rfl, lo_70 l⟩, List.forall_mem_cons.mpr ⟨⟨2, rfl, Or.inl rfl, lo_71 l⟩, List.forall_mem_cons.mpr ⟨⟨2, rfl, Or.inr rfl, lo_74 l⟩, List.forall_mem_cons.mpr ⟨⟨2, rfl, Or.inl rfl, lo_75 l⟩, List.forall_mem_cons.mpr ⟨⟨2, rfl, Or.inr rfl, lo_78 l⟩, List.forall_mem_cons.mpr ⟨⟨1, rfl, Or.inl rfl, lo_79 l⟩, List.forall_mem_cons.mpr ⟨⟨1, rfl, Or.inr rfl, lo_82 l⟩, List.forall_mem_cons.mpr ⟨⟨2, rfl, Or.inl rfl, lo_83 l⟩, List.forall_mem_cons.mpr ⟨⟨2, rfl, Or.inr rfl, lo_86 l⟩, List.forall_mem_cons.mpr ⟨⟨1, rfl, Or.inl rfl, lo_87 l⟩, List.forall_mem_cons.mpr ⟨⟨1, rfl, Or.inr rfl, lo_90 l⟩, List.forall_mem_cons.mpr ⟨⟨2, rfl, Or.inl rfl, lo_91 l⟩, List.forall_mem_cons.mpr ⟨⟨2, rfl, Or.inr rfl, lo_94 l⟩, List.forall_mem_cons.mpr ⟨⟨3, rfl, Or.inl rfl, lo_95 l⟩, List.forall_mem_cons.mpr ⟨⟨3, rfl, Or.inr rfl, lo_98 l⟩, List.forall_mem_cons.mpr ⟨⟨5, rfl, Or.inl rfl, lo_99 l⟩, List.forall_mem_cons.mpr ⟨⟨5, rfl, Or.inr rfl, lo_102 l⟩, List.forall_mem_cons.mpr ⟨⟨4, rfl, Or.inl rfl, lo_103 l⟩, List.forall_mem_cons.mpr ⟨⟨4, rfl, Or.inr rfl, lo_106 l⟩, List.forall_mem_cons.mpr ⟨⟨4, rfl, Or.inl rfl, lo_107 l⟩, List.forall_mem_cons.mpr ⟨⟨4, rfl, Or.inr rfl, lo_110 l⟩, List.forall_mem_cons.mpr ⟨⟨4, rfl, Or.inl rfl, lo_111 l⟩, List.forall_mem_cons.mpr ⟨⟨4, rfl, Or.inr rfl, lo_114 l⟩, List.forall_mem_cons.mpr ⟨⟨3, rfl, Or.inl rfl, lo_115 l⟩, List.forall_mem_cons.mpr ⟨⟨3, rfl, Or.inr rfl, lo_118 l⟩, List.forall_mem_cons.mpr ⟨⟨2, rfl, Or.inl rfl, lo_119 l⟩, List.forall_mem_cons.mpr ⟨⟨2, rfl, Or.inr rfl, lo_122 l⟩, List.forall_mem_cons.mpr ⟨⟨4, rfl, Or.inl rfl, lo_123 l⟩, List.forall_mem_cons.mpr ⟨⟨4, rfl, Or.inr rfl, lo_126 l⟩, List.forall_mem_cons.mpr ⟨⟨4, rfl, Or.inl rfl, lo_127 l⟩, List.forall_mem_cons.mpr ⟨⟨4, rfl, Or.inr rfl, lo_130 l⟩, List.forall_mem_cons.mpr ⟨⟨4, rfl, Or.inl rfl, lo_131 l⟩, List.forall_mem_cons.mpr ⟨⟨4, rfl, Or.inr rfl, lo_134 l⟩, List.forall_mem_cons.mpr ⟨⟨4, rfl, Or.inl rfl, lo_135 l⟩, List.forall_mem_cons.mpr ⟨⟨4, rfl, Or.inr rfl, lo_138 l⟩, List.forall_mem_cons.mpr ⟨⟨3, rfl, Or.inl rfl, lo_139 l⟩, List.forall_mem_cons.mpr ⟨⟨3, rfl, Or.inr rfl, lo_142 l⟩, List.forall_mem_cons.mpr ⟨⟨3, rfl, Or.inl rfl, lo_143 l⟩, List.forall_mem_cons.mpr ⟨⟨3, rfl, Or.inr rfl, lo_146 l⟩, List.forall_mem_cons.mpr ⟨⟨4, rfl, Or.inl rfl, lo_147 l⟩, List.forall_mem_cons.mpr ⟨⟨4, rfl, Or.inr rfl, lo_150 l⟩, List.forall_mem_cons.mpr ⟨⟨2, rfl, Or.inl rfl, lo_151 l⟩, List.forall_mem_cons.mpr ⟨⟨2, rfl, Or.inr rfl, lo_154 l⟩, List.forall_mem_cons.mpr ⟨⟨2, rfl, Or.inl rfl, lo_155 l⟩, List.forall_mem_cons.mpr ⟨⟨2, rfl, Or.inr rfl, lo_158 l⟩, List.forall_mem_cons.mpr ⟨⟨0, rfl, Or.inl rfl, lo_159 l⟩, List.forall_mem_cons.mpr ⟨⟨0, rfl, Or.inr rfl, lo_163 l⟩, List.forall_mem_cons.mpr ⟨⟨0, rfl, Or.inl rfl, lo_164 l⟩, List.forall_mem_cons.mpr ⟨⟨0, rfl, Or.inr rfl, lo_168 l⟩, List.forall_mem_cons.mpr ⟨⟨0, rfl, Or.inl rfl, lo_169 l⟩, List.forall_mem_cons.mpr ⟨⟨0, rfl, Or.inr rfl, lo_172 l⟩, List.forall_mem_cons.mpr ⟨⟨1, rfl, Or.inl rfl, lo_173 l⟩, List.forall_mem_cons.mpr ⟨⟨1, rfl, Or.inr rfl, lo_176 l⟩, List.forall_mem_cons.mpr ⟨⟨0, rfl, Or.inl rfl, lo_177 l⟩, List.forall_mem_cons.mpr ⟨⟨0, rfl, Or.inr rfl, lo_180 l⟩, List.forall_mem_cons.mpr ⟨⟨1, rfl, Or.inl rfl, lo_181 l⟩, List.forall_mem_cons.mpr ⟨⟨1, rfl, Or.inr rfl, lo_184 l⟩, List.forall_mem_cons.mpr ⟨⟨0, rfl, Or.inl rfl, lo_185 l⟩, List.forall_mem_cons.mpr ⟨⟨0, rfl, Or.inr rfl, lo_188 l⟩, fun _ h => absurd h List.not_mem_nil⟩⟩⟩⟩⟩⟩⟩⟩⟩⟩⟩⟩⟩⟩⟩⟩⟩⟩⟩⟩⟩⟩⟩⟩⟩⟩⟩⟩⟩⟩⟩⟩⟩⟩⟩⟩⟩⟩⟩⟩⟩⟩⟩⟩⟩⟩⟩⟩⟩⟩⟩⟩⟩⟩⟩⟩⟩⟩⟩⟩⟩⟩⟩⟩⟩⟩⟩⟩⟩⟩⟩⟩⟩⟩⟩⟩⟩⟩⟩⟩⟩⟩⟩⟩

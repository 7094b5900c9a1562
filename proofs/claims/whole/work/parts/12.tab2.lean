/-! methods: their instructions, by program -/
abbrev YX6_feed : pt_Y := (0, cX6_feed, 6, (some .int), ({ frames := 1, cells := 0, slots := 0, locals := 22 } : Room))
def tX6_feed : pt_B := [
  [(0, .aload_n 0, 1, 0), (1, .getfield 23, 3, 0), (4, .getfield 64, 3, 0), (7, .bipush 20, 2, 0), (9, .iadd, 1, 0), (10, .sipush 140, 3, 0), (13, .if_icmp .le 5, 3, 18)],
  [(16, .iconst (-1), 1, 0), (17, .ireturn, 1, 0), (18, .aload_n 0, 1, 0), (19, .getfield 23, 3, 0), (22, .iload_n 1, 1, 0), (23, .invokevirtual 67, 3, 0), (26, .aload_n 0, 1, 0), (27, .getfield 23, 3, 0), (30, .iload_n 2, 1, 0), (31, .invokevirtual 67, 3, 0)],
  [(34, .aload_n 0, 1, 0), (35, .getfield 23, 3, 0), (38, .iload_n 3, 1, 0), (39, .invokevirtual 67, 3, 0), (42, .aload_n 0, 1, 0), (43, .getfield 23, 3, 0), (46, .iload 4, 2, 0)],
  [(48, .invokevirtual 67, 3, 0), (51, .aload_n 0, 1, 0), (52, .getfield 23, 3, 0), (55, .iload 5, 2, 0), (57, .invokevirtual 67, 3, 0), (60, .aload_n 0, 1, 0), (61, .getfield 23, 3, 0)],
  [(64, .getfield 64, 3, 0), (67, .ireturn, 1, 0)]]
set_option maxRecDepth 100000 in
theorem tX6_feed_ok : pt_ok YX6_feed.2.1 tX6_feed = true := by decide +kernel
theorem nX6_feed : (plainFor yX6_feed && decide (yX6_feed.cls = pt_own YX6_feed.1)) = true := by decide +kernel
abbrev YX6_end : pt_Y := (0, cX6_end, 2, (some .boolean), ({ frames := 0, cells := 0, slots := 0, locals := 0 } : Room))
def tX6_end : pt_B := [
  [(0, .iload_n 1, 1, 0), (1, .ifCond .lt 14, 3, 15), (4, .iload_n 1, 1, 0), (5, .aload_n 0, 1, 0), (6, .getfield 23, 3, 0), (9, .getfield 64, 3, 0), (12, .if_icmp .le 5, 3, 17), (15, .iconst 0, 1, 0)],
  [(16, .ireturn, 1, 0), (17, .aload_n 0, 1, 0), (18, .getfield 23, 3, 0), (21, .iload_n 1, 1, 0), (22, .putfield 64, 3, 0), (25, .iconst 1, 1, 0), (26, .ireturn, 1, 0)]]
set_option maxRecDepth 100000 in
theorem tX6_end_ok : pt_ok YX6_end.2.1 tX6_end = true := by decide +kernel
theorem nX6_end : (plainFor yX6_end && decide (yX6_end.cls = pt_own YX6_end.1)) = true := by decide +kernel
abbrev YX6_place : pt_Y := (0, cX6_place, 3, (some .int), ({ frames := 4, cells := 0, slots := 0, locals := 97 } : Room))
def tX6_place : pt_B := [
  [(0, .aload_n 0, 1, 0), (1, .iload_n 1, 1, 0), (2, .invokevirtual 71, 3, 0), (5, .istore_n 2, 1, 0), (6, .aload_n 0, 1, 0), (7, .getfield 23, 3, 0), (10, .iconst 0, 1, 0), (11, .putfield 64, 3, 0), (14, .iload_n 2, 1, 0), (15, .ireturn, 1, 0)]]
set_option maxRecDepth 100000 in
theorem tX6_place_ok : pt_ok YX6_place.2.1 tX6_place = true := by decide +kernel
theorem nX6_place : (plainFor yX6_place && decide (yX6_place.cls = pt_own YX6_place.1)) = true := by decide +kernel
abbrev YX6_placeByTape : pt_Y := (0, cX6_placeByTape, 4, (some .int), ({ frames := 3, cells := 0, slots := 0, locals := 74 } : Room))
def tX6_placeByTape : pt_B := [
  [(0, .aload_n 0, 1, 0), (1, .getfield 23, 3, 0), (4, .getfield 64, 3, 0), (7, .iconst 4, 1, 0), (8, .idiv, 1, 0), (9, .istore_n 2, 1, 0), (10, .iload_n 1, 1, 0), (11, .invokestatic 75, 3, 0), (14, .ifCond .eq 30, 3, 44)],
  [(17, .aload_n 0, 1, 0), (18, .getfield 23, 3, 0), (21, .getfield 64, 3, 0), (24, .iconst 4, 1, 0), (25, .irem, 1, 0), (26, .ifCond .ne 18, 3, 44), (29, .iload_n 2, 1, 0), (30, .invokestatic 79, 3, 0)],
  [(33, .ifCond .eq 11, 3, 44), (36, .aload_n 0, 1, 0), (37, .iload_n 2, 1, 0), (38, .invokevirtual 82, 3, 0), (41, .ifCond .ne 5, 3, 46), (44, .iconst 1, 1, 0), (45, .ireturn, 1, 0), (46, .aload_n 0, 1, 0), (47, .iload_n 2, 1, 0)],
  [(48, .invokevirtual 85, 3, 0), (51, .istore_n 3, 1, 0), (52, .iload_n 3, 1, 0), (53, .iconst (-1), 1, 0), (54, .if_icmp .eq 10, 3, 64), (57, .aload_n 0, 1, 0), (58, .iload_n 3, 1, 0), (59, .putfield 49, 3, 0), (62, .iconst 2, 1, 0), (63, .ireturn, 1, 0)],
  [(64, .aload_n 0, 1, 0), (65, .iload_n 1, 1, 0), (66, .invokevirtual 88, 3, 0), (69, .iconst 0, 1, 0), (70, .ireturn, 1, 0)]]
set_option maxRecDepth 100000 in
theorem tX6_placeByTape_ok : pt_ok YX6_placeByTape.2.1 tX6_placeByTape = true := by decide +kernel
theorem nX6_placeByTape : (plainFor yX6_placeByTape && decide (yX6_placeByTape.cls = pt_own YX6_placeByTape.1)) = true := by decide +kernel
abbrev YX6_readPlaces : pt_Y := (0, cX6_readPlaces, 3, (some .boolean), ({ frames := 2, cells := 0, slots := 0, locals := 42 } : Room))
def tX6_readPlaces : pt_B := [
  [(0, .iconst 0, 1, 0), (1, .istore_n 2, 1, 0), (2, .iload_n 2, 1, 0), (3, .iload_n 1, 1, 0), (4, .if_icmp .ge 75, 3, 79), (7, .aload_n 0, 1, 0), (8, .getfield 52, 3, 0), (11, .iload_n 2, 1, 0), (12, .aload_n 0, 1, 0), (13, .getfield 23, 3, 0)],
  [(16, .iload_n 2, 1, 0), (17, .iconst 4, 1, 0), (18, .imul, 1, 0), (19, .invokevirtual 91, 3, 0), (22, .iastore, 1, 0), (23, .aload_n 0, 1, 0), (24, .getfield 55, 3, 0), (27, .iload_n 2, 1, 0), (28, .aload_n 0, 1, 0), (29, .getfield 23, 3, 0)],
  [(32, .iload_n 2, 1, 0), (33, .iconst 4, 1, 0), (34, .imul, 1, 0), (35, .iconst 2, 1, 0), (36, .iadd, 1, 0), (37, .invokevirtual 91, 3, 0), (40, .iastore, 1, 0), (41, .aload_n 0, 1, 0), (42, .getfield 52, 3, 0), (45, .iload_n 2, 1, 0), (46, .iaload, 1, 0), (47, .invokestatic 94, 3, 0)],
  [(50, .sipush 10000, 3, 0), (53, .if_icmp .gt 18, 3, 71), (56, .aload_n 0, 1, 0), (57, .getfield 55, 3, 0), (60, .iload_n 2, 1, 0), (61, .iaload, 1, 0), (62, .invokestatic 94, 3, 0)],
  [(65, .sipush 10000, 3, 0), (68, .if_icmp .le 5, 3, 73), (71, .iconst 0, 1, 0), (72, .ireturn, 1, 0), (73, .iinc 2 1, 3, 0), (76, .goto (-74), 3, 2), (79, .iconst 1, 1, 0)],
  [(80, .ireturn, 1, 0)]]
set_option maxRecDepth 100000 in
theorem tX6_readPlaces_ok : pt_ok YX6_readPlaces.2.1 tX6_readPlaces = true := by decide +kernel
theorem nX6_readPlaces : (plainFor yX6_readPlaces && decide (yX6_readPlaces.cls = pt_own YX6_readPlaces.1)) = true := by decide +kernel
abbrev YX6_placeSpare : pt_Y := (0, cX6_placeSpare, 6, (some .int), ({ frames := 2, cells := 0, slots := 0, locals := 49 } : Room))
def tX6_placeSpare : pt_B := [
  [(0, .aload_n 0, 1, 0), (1, .getfield 16, 3, 0), (4, .iload_n 1, 1, 0), (5, .invokevirtual 99, 3, 0), (8, .iconst 0, 1, 0), (9, .istore_n 2, 1, 0), (10, .iload_n 2, 1, 0), (11, .iload_n 1, 1, 0), (12, .if_icmp .ge 139, 3, 151), (15, .iload_n 2, 1, 0)],
  [(16, .iconst 1, 1, 0), (17, .iadd, 1, 0), (18, .istore_n 3, 1, 0), (19, .iload_n 3, 1, 0), (20, .iload_n 1, 1, 0), (21, .if_icmp .ge 124, 3, 145), (24, .iload_n 3, 1, 0), (25, .iconst 1, 1, 0), (26, .iadd, 1, 0), (27, .istore 4, 2, 0), (29, .iload 4, 2, 0), (31, .iload_n 1, 1, 0)],
  [(32, .if_icmp .ge 107, 3, 139), (35, .aload_n 0, 1, 0), (36, .getfield 52, 3, 0), (39, .iload_n 3, 1, 0), (40, .iaload, 1, 0), (41, .aload_n 0, 1, 0), (42, .getfield 52, 3, 0), (45, .iload_n 2, 1, 0), (46, .iaload, 1, 0), (47, .isub, 1, 0)],
  [(48, .aload_n 0, 1, 0), (49, .getfield 55, 3, 0), (52, .iload 4, 2, 0), (54, .iaload, 1, 0), (55, .aload_n 0, 1, 0), (56, .getfield 55, 3, 0), (59, .iload_n 2, 1, 0), (60, .iaload, 1, 0), (61, .isub, 1, 0), (62, .imul, 1, 0), (63, .aload_n 0, 1, 0)],
  [(64, .getfield 55, 3, 0), (67, .iload_n 3, 1, 0), (68, .iaload, 1, 0), (69, .aload_n 0, 1, 0), (70, .getfield 55, 3, 0), (73, .iload_n 2, 1, 0), (74, .iaload, 1, 0), (75, .isub, 1, 0), (76, .aload_n 0, 1, 0), (77, .getfield 52, 3, 0)],
  [(80, .iload 4, 2, 0), (82, .iaload, 1, 0), (83, .aload_n 0, 1, 0), (84, .getfield 52, 3, 0), (87, .iload_n 2, 1, 0), (88, .iaload, 1, 0), (89, .isub, 1, 0), (90, .imul, 1, 0), (91, .isub, 1, 0), (92, .istore 5, 2, 0), (94, .iload 5, 2, 0)],
  [(96, .ifCond .ne 16, 3, 112), (99, .iload_n 2, 1, 0), (100, .bipush 100, 2, 0), (102, .imul, 1, 0), (103, .iload_n 3, 1, 0), (104, .bipush 10, 2, 0), (106, .imul, 1, 0), (107, .iadd, 1, 0), (108, .iload 4, 2, 0), (110, .iadd, 1, 0), (111, .ireturn, 1, 0)],
  [(112, .aload_n 0, 1, 0), (113, .getfield 16, 3, 0), (116, .iload_n 2, 1, 0), (117, .iload_n 3, 1, 0), (118, .iload 4, 2, 0), (120, .iload 5, 2, 0), (122, .ifCond .le 7, 3, 129), (125, .iconst 1, 1, 0), (126, .goto 4, 3, 130)],
  [(129, .iconst 0, 1, 0), (130, .invokevirtual 102, 3, 0), (133, .iinc 4 1, 3, 0), (136, .goto (-107), 3, 29), (139, .iinc 3 1, 3, 0), (142, .goto (-123), 3, 19)],
  [(145, .iinc 2 1, 3, 0), (148, .goto (-138), 3, 10), (151, .iconst (-1), 1, 0), (152, .ireturn, 1, 0)]]
set_option maxRecDepth 100000 in
theorem tX6_placeSpare_ok : pt_ok YX6_placeSpare.2.1 tX6_placeSpare = true := by decide +kernel
theorem nX6_placeSpare : (plainFor yX6_placeSpare && decide (yX6_placeSpare.cls = pt_own YX6_placeSpare.1)) = true := by decide +kernel
abbrev YX6_line : pt_Y := (0, cX6_line, 1, (some .int), ({ frames := 0, cells := 0, slots := 0, locals := 0 } : Room))
def tX6_line : pt_B := [
  [(0, .aload_n 0, 1, 0), (1, .getfield 49, 3, 0), (4, .ireturn, 1, 0)]]
set_option maxRecDepth 100000 in
theorem tX6_line_ok : pt_ok YX6_line.2.1 tX6_line = true := by decide +kernel
theorem nX6_line : (plainFor yX6_line && decide (yX6_line.cls = pt_own YX6_line.1)) = true := by decide +kernel
abbrev YX6_table : pt_Y := (0, cX6_table, 4, (some .boolean), ({ frames := 4, cells := 0, slots := 0, locals := 98 } : Room))
def tX6_table : pt_B := [
  [(0, .aload_n 0, 1, 0), (1, .iload_n 1, 1, 0), (2, .iload_n 2, 1, 0), (3, .invokevirtual 106, 3, 0), (6, .istore_n 3, 1, 0), (7, .aload_n 0, 1, 0), (8, .getfield 23, 3, 0), (11, .iconst 0, 1, 0), (12, .putfield 64, 3, 0), (15, .iload_n 3, 1, 0)],
  [(16, .ireturn, 1, 0)]]
set_option maxRecDepth 100000 in
theorem tX6_table_ok : pt_ok YX6_table.2.1 tX6_table = true := by decide +kernel
theorem nX6_table : (plainFor yX6_table && decide (yX6_table.cls = pt_own YX6_table.1)) = true := by decide +kernel
abbrev YX6_tableByTape : pt_Y := (0, cX6_tableByTape, 4, (some .boolean), ({ frames := 3, cells := 0, slots := 0, locals := 75 } : Room))
def tX6_tableByTape : pt_B := [
  [(0, .iload_n 1, 1, 0), (1, .invokestatic 75, 3, 0), (4, .ifCond .eq 27, 3, 31), (7, .iload_n 2, 1, 0), (8, .invokestatic 79, 3, 0), (11, .ifCond .eq 20, 3, 31), (14, .aload_n 0, 1, 0), (15, .getfield 23, 3, 0)],
  [(18, .getfield 64, 3, 0), (21, .bipush 8, 2, 0), (23, .imul, 1, 0), (24, .iload_n 2, 1, 0), (25, .invokestatic 110, 3, 0), (28, .if_icmp .ge 5, 3, 33), (31, .iconst 0, 1, 0)],
  [(32, .ireturn, 1, 0), (33, .iconst 0, 1, 0), (34, .istore_n 3, 1, 0), (35, .iload_n 3, 1, 0), (36, .iload_n 2, 1, 0), (37, .invokestatic 110, 3, 0), (40, .if_icmp .ge 31, 3, 71), (43, .aload_n 0, 1, 0), (44, .getfield 61, 3, 0), (47, .iload_n 3, 1, 0)],
  [(48, .aload_n 0, 1, 0), (49, .getfield 23, 3, 0), (52, .iload_n 3, 1, 0), (53, .invokevirtual 113, 3, 0), (56, .ifCond .eq 7, 3, 63), (59, .iconst 2, 1, 0), (60, .goto 4, 3, 64), (63, .iconst 1, 1, 0)],
  [(64, .iastore, 1, 0), (65, .iinc 3 1, 3, 0), (68, .goto (-33), 3, 35), (71, .aload_n 0, 1, 0), (72, .getfield 16, 3, 0), (75, .iload_n 2, 1, 0), (76, .aload_n 0, 1, 0), (77, .getfield 61, 3, 0)],
  [(80, .invokevirtual 116, 3, 0), (83, .aload_n 0, 1, 0), (84, .iload_n 1, 1, 0), (85, .invokevirtual 88, 3, 0), (88, .iconst 1, 1, 0), (89, .ireturn, 1, 0)]]
set_option maxRecDepth 100000 in
theorem tX6_tableByTape_ok : pt_ok YX6_tableByTape.2.1 tX6_tableByTape = true := by decide +kernel
theorem nX6_tableByTape : (plainFor yX6_tableByTape && decide (yX6_tableByTape.cls = pt_own YX6_tableByTape.1)) = true := by decide +kernel
abbrev YX6_turn : pt_Y := (0, cX6_turn, 6, (some .int), ({ frames := 2, cells := 0, slots := 0, locals := 44 } : Room))
def tX6_turn : pt_B := [
  [(0, .aload_n 0, 1, 0), (1, .iload_n 1, 1, 0), (2, .invokevirtual 120, 3, 0), (5, .astore 5, 2, 0), (7, .aload 5, 2, 0), (9, .ifnull 15, 3, 24), (12, .aload 5, 2, 0), (14, .iload_n 2, 1, 0), (15, .iload_n 3, 1, 0)],
  [(16, .iload 4, 2, 0), (18, .invokevirtual 124, 3, 0), (21, .ifCond .ne 5, 3, 26), (24, .iconst 0, 1, 0), (25, .ireturn, 1, 0), (26, .aload 5, 2, 0), (28, .iload_n 2, 1, 0), (29, .iload_n 3, 1, 0), (30, .iload 4, 2, 0)],
  [(32, .invokevirtual 128, 3, 0), (35, .ifCond .eq 7, 3, 42), (38, .iconst 1, 1, 0), (39, .goto 4, 3, 43), (42, .iconst (-1), 1, 0), (43, .ireturn, 1, 0)]]
set_option maxRecDepth 100000 in
theorem tX6_turn_ok : pt_ok YX6_turn.2.1 tX6_turn = true := by decide +kernel
theorem nX6_turn : (plainFor yX6_turn && decide (yX6_turn.cls = pt_own YX6_turn.1)) = true := by decide +kernel
abbrev YX6_flip : pt_Y := (0, cX6_flip, 6, (some .boolean), ({ frames := 2, cells := 0, slots := 0, locals := 49 } : Room))
def tX6_flip : pt_B := [
  [(0, .aload_n 0, 1, 0), (1, .iload_n 1, 1, 0), (2, .invokevirtual 120, 3, 0), (5, .astore 5, 2, 0), (7, .aload 5, 2, 0), (9, .ifnull 15, 3, 24), (12, .aload 5, 2, 0), (14, .iload_n 2, 1, 0), (15, .iload_n 3, 1, 0)],
  [(16, .iload 4, 2, 0), (18, .invokevirtual 124, 3, 0), (21, .ifCond .ne 5, 3, 26), (24, .iconst 0, 1, 0), (25, .ireturn, 1, 0), (26, .aload 5, 2, 0), (28, .iload_n 2, 1, 0), (29, .iload_n 3, 1, 0), (30, .iload 4, 2, 0)],
  [(32, .aload 5, 2, 0), (34, .iload_n 2, 1, 0), (35, .iload_n 3, 1, 0), (36, .iload 4, 2, 0), (38, .invokevirtual 128, 3, 0), (41, .ifCond .ne 7, 3, 48), (44, .iconst 1, 1, 0), (45, .goto 4, 3, 49)],
  [(48, .iconst 0, 1, 0), (49, .invokevirtual 102, 3, 0), (52, .aload 5, 2, 0), (54, .invokevirtual 131, 3, 0), (57, .iconst 1, 1, 0), (58, .ireturn, 1, 0)]]
set_option maxRecDepth 100000 in
theorem tX6_flip_ok : pt_ok YX6_flip.2.1 tX6_flip = true := by decide +kernel
theorem nX6_flip : (plainFor yX6_flip && decide (yX6_flip.cls = pt_own YX6_flip.1)) = true := by decide +kernel
abbrev YX6_mirror : pt_Y := (0, cX6_mirror, 5, (some .boolean), ({ frames := 3, cells := 0, slots := 0, locals := 77 } : Room))
def tX6_mirror : pt_B := [
  [(0, .aload_n 0, 1, 0), (1, .iload_n 2, 1, 0), (2, .invokevirtual 120, 3, 0), (5, .astore_n 3, 1, 0), (6, .iload_n 1, 1, 0), (7, .invokestatic 75, 3, 0), (10, .ifCond .eq 7, 3, 17), (13, .aload_n 3, 1, 0), (14, .ifnonnull 5, 3, 19)],
  [(17, .iconst 0, 1, 0), (18, .ireturn, 1, 0), (19, .iconst 0, 1, 0), (20, .istore 4, 2, 0), (22, .iload 4, 2, 0), (24, .aload_n 3, 1, 0), (25, .getfield 134, 3, 0), (28, .if_icmp .ge 18, 3, 46), (31, .aload_n 0, 1, 0)],
  [(32, .getfield 58, 3, 0), (35, .iload 4, 2, 0), (37, .iload 4, 2, 0), (39, .iastore, 1, 0), (40, .iinc 4 1, 3, 0), (43, .goto (-21), 3, 22), (46, .aload_n 0, 1, 0), (47, .getfield 16, 3, 0)],
  [(50, .aload_n 3, 1, 0), (51, .aload_n 0, 1, 0), (52, .getfield 58, 3, 0), (55, .aload_n 3, 1, 0), (56, .getfield 134, 3, 0), (59, .iconst 1, 1, 0), (60, .invokevirtual 137, 3, 0), (63, .aload_n 0, 1, 0)],
  [(64, .iload_n 1, 1, 0), (65, .invokevirtual 88, 3, 0), (68, .iconst 1, 1, 0), (69, .ireturn, 1, 0)]]
set_option maxRecDepth 100000 in
theorem tX6_mirror_ok : pt_ok YX6_mirror.2.1 tX6_mirror = true := by decide +kernel
theorem nX6_mirror : (plainFor yX6_mirror && decide (yX6_mirror.cls = pt_own YX6_mirror.1)) = true := by decide +kernel
abbrev YX6_rename : pt_Y := (0, cX6_rename, 4, (some .boolean), ({ frames := 4, cells := 0, slots := 0, locals := 102 } : Room))
def tX6_rename : pt_B := [
  [(0, .aload_n 0, 1, 0), (1, .iload_n 1, 1, 0), (2, .iload_n 2, 1, 0), (3, .invokevirtual 141, 3, 0), (6, .istore_n 3, 1, 0), (7, .aload_n 0, 1, 0), (8, .getfield 23, 3, 0), (11, .iconst 0, 1, 0), (12, .putfield 64, 3, 0), (15, .iload_n 3, 1, 0)],
  [(16, .ireturn, 1, 0)]]
set_option maxRecDepth 100000 in
theorem tX6_rename_ok : pt_ok YX6_rename.2.1 tX6_rename = true := by decide +kernel
theorem nX6_rename : (plainFor yX6_rename && decide (yX6_rename.cls = pt_own YX6_rename.1)) = true := by decide +kernel
abbrev YX6_renameByTape : pt_Y := (0, cX6_renameByTape, 6, (some .boolean), ({ frames := 3, cells := 0, slots := 0, locals := 77 } : Room))
def tX6_renameByTape : pt_B := [
  [(0, .aload_n 0, 1, 0), (1, .iload_n 2, 1, 0), (2, .invokevirtual 120, 3, 0), (5, .astore_n 3, 1, 0), (6, .iload_n 1, 1, 0), (7, .invokestatic 75, 3, 0), (10, .ifCond .eq 21, 3, 31), (13, .aload_n 3, 1, 0), (14, .ifnull 17, 3, 31)],
  [(17, .aload_n 0, 1, 0), (18, .getfield 23, 3, 0), (21, .getfield 64, 3, 0), (24, .aload_n 3, 1, 0), (25, .getfield 134, 3, 0), (28, .if_icmp .eq 5, 3, 33), (31, .iconst 0, 1, 0)],
  [(32, .ireturn, 1, 0), (33, .iconst 0, 1, 0), (34, .istore 4, 2, 0), (36, .iconst 0, 1, 0), (37, .istore 5, 2, 0), (39, .iload 5, 2, 0), (41, .aload_n 3, 1, 0), (42, .getfield 134, 3, 0), (45, .if_icmp .ge 55, 3, 100)],
  [(48, .aload_n 0, 1, 0), (49, .getfield 58, 3, 0), (52, .iload 5, 2, 0), (54, .aload_n 0, 1, 0), (55, .getfield 23, 3, 0), (58, .iload 5, 2, 0), (60, .invokevirtual 144, 3, 0), (63, .iastore, 1, 0)],
  [(64, .aload_n 3, 1, 0), (65, .aload_n 0, 1, 0), (66, .getfield 58, 3, 0), (69, .iload 5, 2, 0), (71, .iaload, 1, 0), (72, .invokevirtual 147, 3, 0), (75, .ifCond .ne 5, 3, 80), (78, .iconst 0, 1, 0), (79, .ireturn, 1, 0)],
  [(80, .iload 4, 2, 0), (82, .iconst 1, 1, 0), (83, .aload_n 0, 1, 0), (84, .getfield 58, 3, 0), (87, .iload 5, 2, 0), (89, .iaload, 1, 0), (90, .ishl, 1, 0), (91, .ior, 1, 0), (92, .istore 4, 2, 0), (94, .iinc 5 1, 3, 0)],
  [(97, .goto (-58), 3, 39), (100, .iload 4, 2, 0), (102, .aload_n 3, 1, 0), (103, .invokevirtual 150, 3, 0), (106, .if_icmp .eq 5, 3, 111), (109, .iconst 0, 1, 0), (110, .ireturn, 1, 0), (111, .aload_n 0, 1, 0)],
  [(112, .getfield 16, 3, 0), (115, .aload_n 3, 1, 0), (116, .aload_n 0, 1, 0), (117, .getfield 58, 3, 0), (120, .aload_n 3, 1, 0), (121, .getfield 134, 3, 0), (124, .iconst 0, 1, 0), (125, .invokevirtual 137, 3, 0)],
  [(128, .aload_n 0, 1, 0), (129, .iload_n 1, 1, 0), (130, .invokevirtual 88, 3, 0), (133, .iconst 1, 1, 0), (134, .ireturn, 1, 0)]]
set_option maxRecDepth 100000 in
theorem tX6_renameByTape_ok : pt_ok YX6_renameByTape.2.1 tX6_renameByTape = true := by decide +kernel
theorem nX6_renameByTape : (plainFor yX6_renameByTape && decide (yX6_renameByTape.cls = pt_own YX6_renameByTape.1)) = true := by decide +kernel
abbrev YX6_without : pt_Y := (0, cX6_without, 6, (some .boolean), ({ frames := 3, cells := 0, slots := 0, locals := 77 } : Room))
def tX6_without : pt_B := [
  [(0, .aload_n 0, 1, 0), (1, .iload_n 2, 1, 0), (2, .invokevirtual 120, 3, 0), (5, .astore 4, 2, 0), (7, .iload_n 1, 1, 0), (8, .invokestatic 75, 3, 0), (11, .ifCond .eq 26, 3, 37), (14, .aload 4, 2, 0)],
  [(16, .ifnull 21, 3, 37), (19, .aload 4, 2, 0), (21, .iload_n 3, 1, 0), (22, .invokevirtual 147, 3, 0), (25, .ifCond .eq 12, 3, 37), (28, .aload 4, 2, 0), (30, .getfield 134, 3, 0)],
  [(33, .iconst 3, 1, 0), (34, .if_icmp .ne 5, 3, 39), (37, .iconst 0, 1, 0), (38, .ireturn, 1, 0), (39, .iconst 0, 1, 0), (40, .istore 5, 2, 0), (42, .iload 5, 2, 0), (44, .aload 4, 2, 0), (46, .getfield 134, 3, 0)],
  [(49, .iconst 1, 1, 0), (50, .isub, 1, 0), (51, .if_icmp .ge 31, 3, 82), (54, .aload_n 0, 1, 0), (55, .getfield 58, 3, 0), (58, .iload 5, 2, 0), (60, .iload 5, 2, 0), (62, .iload_n 3, 1, 0), (63, .if_icmp .ge 8, 3, 71)],
  [(66, .iload 5, 2, 0), (68, .goto 7, 3, 75), (71, .iload 5, 2, 0), (73, .iconst 1, 1, 0), (74, .iadd, 1, 0), (75, .iastore, 1, 0), (76, .iinc 5 1, 3, 0), (79, .goto (-37), 3, 42)],
  [(82, .aload_n 0, 1, 0), (83, .getfield 16, 3, 0), (86, .aload 4, 2, 0), (88, .aload_n 0, 1, 0), (89, .getfield 58, 3, 0), (92, .aload 4, 2, 0), (94, .getfield 134, 3, 0)],
  [(97, .iconst 1, 1, 0), (98, .isub, 1, 0), (99, .iconst 0, 1, 0), (100, .invokevirtual 137, 3, 0), (103, .aload_n 0, 1, 0), (104, .iload_n 1, 1, 0), (105, .invokevirtual 88, 3, 0), (108, .iconst 1, 1, 0), (109, .ireturn, 1, 0)]]
set_option maxRecDepth 100000 in
theorem tX6_without_ok : pt_ok YX6_without.2.1 tX6_without = true := by decide +kernel
theorem nX6_without : (plainFor yX6_without && decide (yX6_without.cls = pt_own YX6_without.1)) = true := by decide +kernel
abbrev YX6_lawful : pt_Y := (0, cX6_lawful, 3, (some .int), ({ frames := 6, cells := 0, slots := 0, locals := 144 } : Room))
def tX6_lawful : pt_B := [
  [(0, .aload_n 0, 1, 0), (1, .iload_n 1, 1, 0), (2, .invokevirtual 154, 3, 0), (5, .istore_n 2, 1, 0), (6, .iload_n 2, 1, 0), (7, .iconst (-1), 1, 0), (8, .if_icmp .ne 5, 3, 13), (11, .iconst (-1), 1, 0), (12, .ireturn, 1, 0), (13, .iload_n 2, 1, 0), (14, .ifCond .ne 7, 3, 21)],
  [(17, .iconst 1, 1, 0), (18, .goto 4, 3, 22), (21, .iconst 0, 1, 0), (22, .ireturn, 1, 0)]]
set_option maxRecDepth 100000 in
theorem tX6_lawful_ok : pt_ok YX6_lawful.2.1 tX6_lawful = true := by decide +kernel
theorem nX6_lawful : (plainFor yX6_lawful && decide (yX6_lawful.cls = pt_own YX6_lawful.1)) = true := by decide +kernel
abbrev YX6_why : pt_Y := (0, cX6_why, 3, (some .int), ({ frames := 5, cells := 0, slots := 0, locals := 122 } : Room))
def tX6_why : pt_B := [
  [(0, .aload_n 0, 1, 0), (1, .iload_n 1, 1, 0), (2, .invokevirtual 120, 3, 0), (5, .astore_n 2, 1, 0), (6, .aload_n 2, 1, 0), (7, .ifnonnull 7, 3, 14), (10, .iconst (-1), 1, 0), (11, .goto 7, 3, 18), (14, .aload_n 2, 1, 0), (15, .invokestatic 157, 3, 0)],
  [(18, .ireturn, 1, 0)]]
set_option maxRecDepth 100000 in
theorem tX6_why_ok : pt_ok YX6_why.2.1 tX6_why = true := by decide +kernel
theorem nX6_why : (plainFor yX6_why && decide (yX6_why.cls = pt_own YX6_why.1)) = true := by decide +kernel
abbrev YX6_rim : pt_Y := (0, cX6_rim, 3, (some .int), ({ frames := 6, cells := 0, slots := 0, locals := 144 } : Room))
def tX6_rim : pt_B := [
  [(0, .aload_n 0, 1, 0), (1, .iload_n 1, 1, 0), (2, .invokevirtual 163, 3, 0), (5, .astore_n 2, 1, 0), (6, .aload_n 2, 1, 0), (7, .ifnonnull 7, 3, 14), (10, .iconst (-1), 1, 0), (11, .goto 14, 3, 25), (14, .aload_n 2, 1, 0), (15, .aload_n 2, 1, 0)],
  [(16, .invokevirtual 150, 3, 0), (19, .invokestatic 166, 3, 0), (22, .invokestatic 172, 3, 0), (25, .ireturn, 1, 0)]]
set_option maxRecDepth 100000 in
theorem tX6_rim_ok : pt_ok YX6_rim.2.1 tX6_rim = true := by decide +kernel
theorem nX6_rim : (plainFor yX6_rim && decide (yX6_rim.cls = pt_own YX6_rim.1)) = true := by decide +kernel
abbrev YX6_onRim : pt_Y := (0, cX6_onRim, 7, (some .int), ({ frames := 6, cells := 0, slots := 0, locals := 144 } : Room))
def tX6_onRim : pt_B := [
  [(0, .aload_n 0, 1, 0), (1, .iload_n 1, 1, 0), (2, .invokevirtual 163, 3, 0), (5, .astore_n 3, 1, 0), (6, .aload_n 3, 1, 0), (7, .ifnonnull 13, 3, 20), (13, .dup, 1, 0)],
  [(20, .aload_n 3, 1, 0), (21, .aload_n 3, 1, 0), (22, .invokevirtual 150, 3, 0), (25, .invokestatic 166, 3, 0), (28, .istore 4, 2, 0), (30, .iload_n 2, 1, 0), (31, .ifCond .lt 12, 3, 43)],
  [(34, .iload_n 2, 1, 0), (35, .iload 4, 2, 0), (37, .invokestatic 172, 3, 0), (40, .if_icmp .lt 13, 3, 53), (46, .dup, 1, 0)],
  [(53, .aload_n 3, 1, 0), (54, .iload 4, 2, 0), (56, .invokestatic 186, 3, 0), (59, .istore 5, 2, 0), (61, .iconst 0, 1, 0), (62, .istore 6, 2, 0)],
  [(64, .iload 6, 2, 0), (66, .iload_n 2, 1, 0), (67, .if_icmp .ge 19, 3, 86), (70, .aload_n 3, 1, 0), (71, .iload 4, 2, 0), (73, .iload 5, 2, 0), (75, .invokestatic 189, 3, 0), (78, .istore 5, 2, 0)],
  [(80, .iinc 6 1, 3, 0), (83, .goto (-19), 3, 64), (86, .iload 5, 2, 0), (88, .ireturn, 1, 0)]]
set_option maxRecDepth 100000 in
theorem tX6_onRim_ok : pt_ok YX6_onRim.2.1 tX6_onRim = true := by decide +kernel
theorem nX6_onRim : (plainFor yX6_onRim && decide (yX6_onRim.cls = pt_own YX6_onRim.1)) = true := by decide +kernel
abbrev YX6_layer : pt_Y := (0, cX6_layer, 4, (some .int), ({ frames := 6, cells := 0, slots := 0, locals := 144 } : Room))
def tX6_layer : pt_B := [
  [(0, .aload_n 0, 1, 0), (1, .iload_n 1, 1, 0), (2, .invokevirtual 163, 3, 0), (5, .astore_n 3, 1, 0), (6, .aload_n 3, 1, 0), (7, .ifnull 11, 3, 18), (10, .aload_n 3, 1, 0), (11, .iload_n 2, 1, 0), (12, .invokevirtual 147, 3, 0), (15, .ifCond .ne 5, 3, 20)],
  [(18, .iconst (-1), 1, 0), (19, .ireturn, 1, 0), (20, .aload_n 3, 1, 0), (21, .iload_n 2, 1, 0), (22, .invokestatic 193, 3, 0), (25, .ireturn, 1, 0)]]
set_option maxRecDepth 100000 in
theorem tX6_layer_ok : pt_ok YX6_layer.2.1 tX6_layer = true := by decide +kernel
theorem nX6_layer : (plainFor yX6_layer && decide (yX6_layer.cls = pt_own YX6_layer.1)) = true := by decide +kernel
abbrev YX6_code : pt_Y := (0, cX6_code, 3, (some .int), ({ frames := 6, cells := 0, slots := 0, locals := 144 } : Room))
def tX6_code : pt_B := [
  [(0, .aload_n 0, 1, 0), (1, .iload_n 1, 1, 0), (2, .invokevirtual 163, 3, 0), (5, .astore_n 2, 1, 0), (6, .aload_n 2, 1, 0), (7, .ifnonnull 5, 3, 12), (10, .iconst (-1), 1, 0), (11, .ireturn, 1, 0), (12, .aload_n 0, 1, 0), (13, .aload_n 0, 1, 0), (14, .getfield 30, 3, 0)],
  [(17, .aload_n 2, 1, 0), (18, .invokevirtual 196, 3, 0), (21, .aload_n 2, 1, 0), (22, .getfield 134, 3, 0), (25, .invokestatic 110, 3, 0), (28, .invokevirtual 200, 3, 0), (31, .aload_n 0, 1, 0)],
  [(32, .getfield 45, 3, 0), (35, .ireturn, 1, 0)]]
set_option maxRecDepth 100000 in
theorem tX6_code_ok : pt_ok YX6_code.2.1 tX6_code = true := by decide +kernel
theorem nX6_code : (plainFor yX6_code && decide (yX6_code.cls = pt_own YX6_code.1)) = true := by decide +kernel
abbrev YX6_named : pt_Y := (0, cX6_named, 4, (some .boolean), ({ frames := 6, cells := 0, slots := 0, locals := 144 } : Room))
def tX6_named : pt_B := [
  [(0, .aload_n 0, 1, 0), (1, .iload_n 2, 1, 0), (2, .invokevirtual 163, 3, 0), (5, .astore_n 3, 1, 0), (6, .iload_n 1, 1, 0), (7, .invokestatic 75, 3, 0), (10, .ifCond .eq 7, 3, 17), (13, .aload_n 3, 1, 0), (14, .ifnonnull 5, 3, 19)],
  [(17, .iconst 0, 1, 0), (18, .ireturn, 1, 0), (19, .aload_n 0, 1, 0), (20, .getfield 16, 3, 0), (23, .aload_n 3, 1, 0), (24, .getfield 134, 3, 0), (27, .aload_n 0, 1, 0), (28, .getfield 30, 3, 0), (31, .aload_n 3, 1, 0)],
  [(32, .invokevirtual 196, 3, 0), (35, .invokevirtual 116, 3, 0), (38, .aload_n 0, 1, 0), (39, .iload_n 1, 1, 0), (40, .invokevirtual 88, 3, 0), (43, .iconst 1, 1, 0), (44, .ireturn, 1, 0)]]
set_option maxRecDepth 100000 in
theorem tX6_named_ok : pt_ok YX6_named.2.1 tX6_named = true := by decide +kernel
theorem nX6_named : (plainFor yX6_named && decide (yX6_named.cls = pt_own YX6_named.1)) = true := by decide +kernel
abbrev YX6_like : pt_Y := (0, cX6_like, 7, (some .int), ({ frames := 6, cells := 0, slots := 0, locals := 144 } : Room))
def tX6_like : pt_B := [
  [(0, .aload_n 0, 1, 0), (1, .iload_n 1, 1, 0), (2, .invokevirtual 163, 3, 0), (5, .astore_n 3, 1, 0), (6, .aload_n 0, 1, 0), (7, .iload_n 2, 1, 0), (8, .invokevirtual 163, 3, 0), (11, .astore 4, 2, 0), (13, .aload_n 3, 1, 0), (14, .ifnull 8, 3, 22)],
  [(17, .aload 4, 2, 0), (19, .ifnonnull 5, 3, 24), (22, .iconst (-1), 1, 0), (23, .ireturn, 1, 0), (24, .aload_n 3, 1, 0), (25, .getfield 134, 3, 0), (28, .aload 4, 2, 0), (30, .getfield 134, 3, 0)],
  [(33, .if_icmp .eq 5, 3, 38), (36, .iconst 0, 1, 0), (37, .ireturn, 1, 0), (38, .aload_n 0, 1, 0), (39, .getfield 30, 3, 0), (42, .aload_n 3, 1, 0), (43, .invokevirtual 204, 3, 0), (46, .aload_n 0, 1, 0), (47, .getfield 30, 3, 0)],
  [(50, .aload 4, 2, 0), (52, .invokevirtual 204, 3, 0), (55, .aload_n 3, 1, 0), (56, .getfield 134, 3, 0), (59, .invokestatic 110, 3, 0), (62, .istore 5, 2, 0)],
  [(64, .iconst 0, 1, 0), (65, .istore 6, 2, 0), (67, .aload_n 3, 1, 0), (68, .getfield 208, 3, 0), (71, .aload 4, 2, 0), (73, .getfield 208, 3, 0), (76, .iload 5, 2, 0), (78, .invokestatic 211, 3, 0)],
  [(81, .ifCond .ne 6, 3, 87), (84, .iinc 6 1, 3, 0), (87, .aload_n 3, 1, 0), (88, .getfield 215, 3, 0), (91, .aload 4, 2, 0), (93, .getfield 208, 3, 0)],
  [(96, .iload 5, 2, 0), (98, .invokestatic 211, 3, 0), (101, .ifCond .ne 6, 3, 107), (104, .iinc 6 2, 3, 0), (107, .iload 6, 2, 0), (109, .ireturn, 1, 0)]]
set_option maxRecDepth 100000 in
theorem tX6_like_ok : pt_ok YX6_like.2.1 tX6_like = true := by decide +kernel
theorem nX6_like : (plainFor yX6_like && decide (yX6_like.cls = pt_own YX6_like.1)) = true := by decide +kernel
abbrev YX6_swept : pt_Y := (0, cX6_swept, 4, (some .boolean), ({ frames := 4, cells := 0, slots := 0, locals := 96 } : Room))
def tX6_swept : pt_B := [
  [(0, .aload_n 0, 1, 0), (1, .iload_n 1, 1, 0), (2, .iload_n 2, 1, 0), (3, .invokevirtual 218, 3, 0), (6, .istore_n 3, 1, 0), (7, .aload_n 0, 1, 0), (8, .getfield 23, 3, 0), (11, .iconst 0, 1, 0), (12, .putfield 64, 3, 0), (15, .iload_n 3, 1, 0)],
  [(16, .ireturn, 1, 0)]]
set_option maxRecDepth 100000 in
theorem tX6_swept_ok : pt_ok YX6_swept.2.1 tX6_swept = true := by decide +kernel
theorem nX6_swept : (plainFor yX6_swept && decide (yX6_swept.cls = pt_own YX6_swept.1)) = true := by decide +kernel
abbrev YX6_sweptByTape : pt_Y := (0, cX6_sweptByTape, 3, (some .boolean), ({ frames := 3, cells := 0, slots := 0, locals := 74 } : Room))
def tX6_sweptByTape : pt_B := [
  [(0, .iload_n 1, 1, 0), (1, .invokestatic 75, 3, 0), (4, .ifCond .eq 25, 3, 29), (7, .iload_n 2, 1, 0), (8, .invokestatic 79, 3, 0), (11, .ifCond .eq 18, 3, 29), (14, .aload_n 0, 1, 0), (15, .getfield 37, 3, 0)],
  [(18, .aload_n 0, 1, 0), (19, .getfield 23, 3, 0), (22, .iload_n 2, 1, 0), (23, .invokevirtual 221, 3, 0), (26, .ifCond .ne 5, 3, 31), (29, .iconst 0, 1, 0), (30, .ireturn, 1, 0), (31, .aload_n 0, 1, 0)],
  [(32, .getfield 37, 3, 0), (35, .aload_n 0, 1, 0), (36, .getfield 16, 3, 0), (39, .iload_n 2, 1, 0), (40, .invokevirtual 225, 3, 0), (43, .aload_n 0, 1, 0), (44, .iload_n 1, 1, 0), (45, .invokevirtual 88, 3, 0)],
  [(48, .iconst 1, 1, 0), (49, .ireturn, 1, 0)]]
set_option maxRecDepth 100000 in
theorem tX6_sweptByTape_ok : pt_ok YX6_sweptByTape.2.1 tX6_sweptByTape = true := by decide +kernel
theorem nX6_sweptByTape : (plainFor yX6_sweptByTape && decide (yX6_sweptByTape.cls = pt_own YX6_sweptByTape.1)) = true := by decide +kernel
abbrev YX6_sweep : pt_Y := (0, cX6_sweep, 3, (some .int), ({ frames := 5, cells := 0, slots := 0, locals := 120 } : Room))
def tX6_sweep : pt_B := [
  [(0, .aload_n 0, 1, 0), (1, .iload_n 1, 1, 0), (2, .invokevirtual 120, 3, 0), (5, .astore_n 2, 1, 0), (6, .aload_n 2, 1, 0), (7, .ifnull 14, 3, 21), (10, .aload_n 0, 1, 0), (11, .getfield 37, 3, 0), (14, .aload_n 2, 1, 0), (15, .invokevirtual 229, 3, 0)],
  [(18, .ifCond .ne 5, 3, 23), (21, .iconst (-1), 1, 0), (22, .ireturn, 1, 0), (23, .aload_n 0, 1, 0), (24, .aload_n 0, 1, 0), (25, .getfield 37, 3, 0), (28, .getfield 233, 3, 0), (31, .aload_n 2, 1, 0)],
  [(32, .getfield 134, 3, 0), (35, .invokestatic 236, 3, 0), (38, .invokevirtual 200, 3, 0), (41, .aload_n 0, 1, 0), (42, .getfield 45, 3, 0), (45, .ireturn, 1, 0)]]
set_option maxRecDepth 100000 in
theorem tX6_sweep_ok : pt_ok YX6_sweep.2.1 tX6_sweep = true := by decide +kernel
theorem nX6_sweep : (plainFor yX6_sweep && decide (yX6_sweep.cls = pt_own YX6_sweep.1)) = true := by decide +kernel
abbrev YX6_octet : pt_Y := (0, cX6_octet, 2, (some .int), ({ frames := 0, cells := 0, slots := 0, locals := 0 } : Room))
def tX6_octet : pt_B := [
  [(0, .iload_n 1, 1, 0), (1, .ifCond .lt 11, 3, 12), (4, .iload_n 1, 1, 0), (5, .aload_n 0, 1, 0), (6, .getfield 45, 3, 0), (9, .if_icmp .lt 13, 3, 22), (15, .dup, 1, 0)],
  [(22, .aload_n 0, 1, 0), (23, .getfield 41, 3, 0), (26, .iload_n 1, 1, 0), (27, .iaload, 1, 0), (28, .ireturn, 1, 0)]]
set_option maxRecDepth 100000 in
theorem tX6_octet_ok : pt_ok YX6_octet.2.1 tX6_octet = true := by decide +kernel
theorem nX6_octet : (plainFor yX6_octet && decide (yX6_octet.cls = pt_own YX6_octet.1)) = true := by decide +kernel
abbrev YX6_figures : pt_Y := (0, cX6_figures, 7, (some .int), ({ frames := 6, cells := 0, slots := 0, locals := 144 } : Room))
def tX6_figures : pt_B := [
  [(0, .aload_n 0, 1, 0), (1, .iload_n 1, 1, 0), (2, .invokevirtual 163, 3, 0), (5, .astore 4, 2, 0), (7, .aload 4, 2, 0), (9, .ifnull 14, 3, 23), (12, .iload_n 2, 1, 0), (13, .iconst 3, 1, 0), (14, .if_icmp .lt 9, 3, 23)],
  [(17, .iload_n 2, 1, 0), (18, .bipush 6, 2, 0), (20, .if_icmp .le 5, 3, 25), (23, .iconst (-1), 1, 0), (24, .ireturn, 1, 0), (25, .iconst 0, 1, 0), (26, .istore 5, 2, 0), (28, .iconst 0, 1, 0), (29, .istore 6, 2, 0), (31, .iload 6, 2, 0)],
  [(33, .aload 4, 2, 0), (35, .invokevirtual 150, 3, 0), (38, .if_icmp .gt 45, 3, 83), (41, .iload 6, 2, 0), (43, .invokestatic 172, 3, 0), (46, .iload_n 2, 1, 0), (47, .if_icmp .ne 30, 3, 77)],
  [(50, .aload 4, 2, 0), (52, .iload 6, 2, 0), (54, .invokestatic 241, 3, 0), (57, .ifCond .eq 20, 3, 77), (60, .iload_n 3, 1, 0), (61, .ifCond .eq 13, 3, 74)],
  [(64, .aload 4, 2, 0), (66, .iload 6, 2, 0), (68, .invokestatic 245, 3, 0), (71, .ifCond .ne 6, 3, 77), (74, .iinc 5 1, 3, 0), (77, .iinc 6 1, 3, 0)],
  [(80, .goto (-49), 3, 31), (83, .iload 5, 2, 0), (85, .ireturn, 1, 0)]]
set_option maxRecDepth 100000 in
theorem tX6_figures_ok : pt_ok YX6_figures.2.1 tX6_figures = true := by decide +kernel
theorem nX6_figures : (plainFor yX6_figures && decide (yX6_figures.cls = pt_own YX6_figures.1)) = true := by decide +kernel
abbrev YX6_lines : pt_Y := (0, cX6_lines, 7, (some .int), ({ frames := 2, cells := 0, slots := 0, locals := 41 } : Room))
def tX6_lines : pt_B := [
  [(0, .aload_n 0, 1, 0), (1, .iload_n 1, 1, 0), (2, .invokevirtual 120, 3, 0), (5, .astore_n 3, 1, 0), (6, .aload_n 3, 1, 0), (7, .ifnonnull 5, 3, 12), (10, .iconst (-1), 1, 0), (11, .ireturn, 1, 0), (12, .iconst 0, 1, 0), (13, .istore 4, 2, 0), (15, .iconst 0, 1, 0)],
  [(16, .istore 5, 2, 0), (18, .iload 5, 2, 0), (20, .aload_n 3, 1, 0), (21, .getfield 134, 3, 0), (24, .if_icmp .ge 48, 3, 72), (27, .iload 5, 2, 0), (29, .iconst 1, 1, 0), (30, .iadd, 1, 0), (31, .istore 6, 2, 0)],
  [(33, .iload 6, 2, 0), (35, .aload_n 3, 1, 0), (36, .getfield 134, 3, 0), (39, .if_icmp .ge 27, 3, 66), (42, .aload_n 3, 1, 0), (43, .iload 5, 2, 0), (45, .iload 6, 2, 0), (47, .invokevirtual 248, 3, 0)],
  [(50, .invokestatic 172, 3, 0), (53, .iload_n 2, 1, 0), (54, .if_icmp .ne 6, 3, 60), (57, .iinc 4 1, 3, 0), (60, .iinc 6 1, 3, 0), (63, .goto (-30), 3, 33)],
  [(66, .iinc 5 1, 3, 0), (69, .goto (-51), 3, 18), (72, .iload 4, 2, 0), (74, .ireturn, 1, 0)]]
set_option maxRecDepth 100000 in
theorem tX6_lines_ok : pt_ok YX6_lines.2.1 tX6_lines = true := by decide +kernel
theorem nX6_lines : (plainFor yX6_lines && decide (yX6_lines.cls = pt_own YX6_lines.1)) = true := by decide +kernel
abbrev YX6_inside : pt_Y := (0, cX6_inside, 9, (some .int), ({ frames := 2, cells := 0, slots := 0, locals := 44 } : Room))
def tX6_inside : pt_B := [
  [(0, .aload_n 0, 1, 0), (1, .iload_n 1, 1, 0), (2, .invokevirtual 120, 3, 0), (5, .astore 6, 2, 0), (7, .aload 6, 2, 0), (9, .ifnull 44, 3, 53), (12, .aload 6, 2, 0), (14, .iload_n 2, 1, 0), (15, .iload_n 3, 1, 0)],
  [(16, .iload 4, 2, 0), (18, .invokevirtual 124, 3, 0), (21, .ifCond .eq 32, 3, 53), (24, .aload 6, 2, 0), (26, .iload 5, 2, 0), (28, .invokevirtual 147, 3, 0), (31, .ifCond .eq 22, 3, 53)],
  [(34, .iload 5, 2, 0), (36, .iload_n 2, 1, 0), (37, .if_icmp .eq 16, 3, 53), (40, .iload 5, 2, 0), (42, .iload_n 3, 1, 0), (43, .if_icmp .eq 10, 3, 53), (46, .iload 5, 2, 0)],
  [(48, .iload 4, 2, 0), (50, .if_icmp .ne 5, 3, 55), (53, .iconst (-1), 1, 0), (54, .ireturn, 1, 0), (55, .aload 6, 2, 0), (57, .iload_n 2, 1, 0), (58, .iload_n 3, 1, 0), (59, .iload 4, 2, 0), (61, .invokevirtual 128, 3, 0)],
  [(64, .istore 7, 2, 0), (66, .aload 6, 2, 0), (68, .iload_n 2, 1, 0), (69, .iload_n 3, 1, 0), (70, .iload 5, 2, 0), (72, .invokevirtual 128, 3, 0), (75, .iload 7, 2, 0), (77, .if_icmp .ne 37, 3, 114)],
  [(80, .aload 6, 2, 0), (82, .iload_n 3, 1, 0), (83, .iload 4, 2, 0), (85, .iload 5, 2, 0), (87, .invokevirtual 128, 3, 0), (90, .iload 7, 2, 0), (92, .if_icmp .ne 22, 3, 114), (95, .aload 6, 2, 0)],
  [(97, .iload 4, 2, 0), (99, .iload_n 2, 1, 0), (100, .iload 5, 2, 0), (102, .invokevirtual 128, 3, 0), (105, .iload 7, 2, 0), (107, .if_icmp .ne 7, 3, 114), (110, .iconst 1, 1, 0), (111, .goto 4, 3, 115)],
  [(114, .iconst 0, 1, 0), (115, .istore 8, 2, 0), (117, .iload 8, 2, 0), (119, .ifCond .eq 7, 3, 126), (122, .iconst 1, 1, 0), (123, .goto 4, 3, 127), (126, .iconst 0, 1, 0), (127, .ireturn, 1, 0)]]
set_option maxRecDepth 100000 in
theorem tX6_inside_ok : pt_ok YX6_inside.2.1 tX6_inside = true := by decide +kernel
theorem nX6_inside : (plainFor yX6_inside && decide (yX6_inside.cls = pt_own YX6_inside.1)) = true := by decide +kernel
abbrev YX6_kinds : pt_Y := (0, cX6_kinds, 3, (some .int), ({ frames := 1, cells := 0, slots := 0, locals := 20 } : Room))
def tX6_kinds : pt_B := [
  [(0, .iload_n 1, 1, 0), (1, .invokestatic 252, 3, 0), (4, .arraylength, 1, 0), (5, .istore_n 2, 1, 0), (6, .iload_n 2, 1, 0), (7, .ifCond .ne 7, 3, 14), (10, .iconst (-1), 1, 0), (11, .goto 4, 3, 15), (14, .iload_n 2, 1, 0), (15, .ireturn, 1, 0)]]
set_option maxRecDepth 100000 in
theorem tX6_kinds_ok : pt_ok YX6_kinds.2.1 tX6_kinds = true := by decide +kernel
theorem nX6_kinds : (plainFor yX6_kinds && decide (yX6_kinds.cls = pt_own YX6_kinds.1)) = true := by decide +kernel
abbrev YX6_kind : pt_Y := (0, cX6_kind, 7, (some .boolean), ({ frames := 3, cells := 0, slots := 0, locals := 75 } : Room))
def tX6_kind : pt_B := [
  [(0, .iload_n 2, 1, 0), (1, .invokestatic 252, 3, 0), (4, .astore 4, 2, 0), (6, .iload_n 1, 1, 0), (7, .invokestatic 75, 3, 0), (10, .ifCond .eq 14, 3, 24), (13, .iload_n 3, 1, 0), (14, .ifCond .lt 10, 3, 24)],
  [(17, .iload_n 3, 1, 0), (18, .aload 4, 2, 0), (20, .arraylength, 1, 0), (21, .if_icmp .lt 5, 3, 26), (24, .iconst 0, 1, 0), (25, .ireturn, 1, 0), (26, .iload_n 2, 1, 0), (27, .invokestatic 110, 3, 0), (30, .istore 5, 2, 0)],
  [(32, .iconst 0, 1, 0), (33, .istore 6, 2, 0), (35, .iload 6, 2, 0), (37, .iload 5, 2, 0), (39, .if_icmp .ge 39, 3, 78), (42, .aload_n 0, 1, 0), (43, .getfield 61, 3, 0), (46, .iload 6, 2, 0)],
  [(48, .aload 4, 2, 0), (50, .iload_n 3, 1, 0), (51, .iaload, 1, 0), (52, .iload 5, 2, 0), (54, .iconst 1, 1, 0), (55, .isub, 1, 0), (56, .iload 6, 2, 0), (58, .isub, 1, 0), (59, .ishr, 1, 0), (60, .iconst 1, 1, 0), (61, .iand, 1, 0), (62, .iconst 1, 1, 0), (63, .if_icmp .ne 7, 3, 70)],
  [(66, .iconst 2, 1, 0), (67, .goto 4, 3, 71), (70, .iconst 1, 1, 0), (71, .iastore, 1, 0), (72, .iinc 6 1, 3, 0), (75, .goto (-40), 3, 35), (78, .aload_n 0, 1, 0), (79, .getfield 16, 3, 0)],
  [(82, .iload_n 2, 1, 0), (83, .aload_n 0, 1, 0), (84, .getfield 61, 3, 0), (87, .invokevirtual 116, 3, 0), (90, .aload_n 0, 1, 0), (91, .iload_n 1, 1, 0), (92, .invokevirtual 88, 3, 0), (95, .iconst 1, 1, 0)],
  [(96, .ireturn, 1, 0)]]
set_option maxRecDepth 100000 in
theorem tX6_kind_ok : pt_ok YX6_kind.2.1 tX6_kind = true := by decide +kernel
theorem nX6_kind : (plainFor yX6_kind && decide (yX6_kind.cls = pt_own YX6_kind.1)) = true := by decide +kernel
abbrev YX6_which : pt_Y := (0, cX6_which, 6, (some .int), ({ frames := 6, cells := 0, slots := 0, locals := 144 } : Room))
def tX6_which : pt_B := [
  [(0, .aload_n 0, 1, 0), (1, .iload_n 1, 1, 0), (2, .invokevirtual 163, 3, 0), (5, .astore_n 2, 1, 0), (6, .aload_n 2, 1, 0), (7, .ifnonnull 5, 3, 12), (10, .iconst (-1), 1, 0), (11, .ireturn, 1, 0), (12, .aload_n 2, 1, 0), (13, .getfield 134, 3, 0)],
  [(16, .invokestatic 252, 3, 0), (19, .astore_n 3, 1, 0), (20, .aload_n 3, 1, 0), (21, .arraylength, 1, 0), (22, .ifCond .ne 5, 3, 27), (25, .iconst (-1), 1, 0), (26, .ireturn, 1, 0), (27, .aload_n 0, 1, 0), (28, .getfield 30, 3, 0), (31, .aload_n 2, 1, 0)],
  [(32, .invokevirtual 196, 3, 0), (35, .aload_n 2, 1, 0), (36, .getfield 134, 3, 0), (39, .invokestatic 110, 3, 0), (42, .invokestatic 256, 3, 0), (45, .istore 4, 2, 0), (47, .iconst 0, 1, 0)],
  [(48, .istore 5, 2, 0), (50, .iload 5, 2, 0), (52, .aload_n 3, 1, 0), (53, .arraylength, 1, 0), (54, .if_icmp .ge 21, 3, 75), (57, .aload_n 3, 1, 0), (58, .iload 5, 2, 0), (60, .iaload, 1, 0), (61, .iload 4, 2, 0), (63, .if_icmp .ne 6, 3, 69)],
  [(66, .iload 5, 2, 0), (68, .ireturn, 1, 0), (69, .iinc 5 1, 3, 0), (72, .goto (-22), 3, 50), (75, .iconst (-1), 1, 0), (76, .ireturn, 1, 0)]]
set_option maxRecDepth 100000 in
theorem tX6_which_ok : pt_ok YX6_which.2.1 tX6_which = true := by decide +kernel
theorem nX6_which : (plainFor yX6_which && decide (yX6_which.cls = pt_own YX6_which.1)) = true := by decide +kernel
abbrev YX6_points : pt_Y := (0, cX6_points, 2, (some .int), ({ frames := 1, cells := 0, slots := 0, locals := 20 } : Room))
def tX6_points : pt_B := [
  [(0, .iload_n 1, 1, 0), (1, .invokestatic 75, 3, 0), (4, .ifCond .eq 15, 3, 19), (7, .aload_n 0, 1, 0), (8, .getfield 11, 3, 0), (11, .iload_n 1, 1, 0), (12, .aaload, 1, 0), (13, .getfield 134, 3, 0)],
  [(16, .goto 4, 3, 20), (19, .iconst 0, 1, 0), (20, .ireturn, 1, 0)]]
set_option maxRecDepth 100000 in
theorem tX6_points_ok : pt_ok YX6_points.2.1 tX6_points = true := by decide +kernel
theorem nX6_points : (plainFor yX6_points && decide (yX6_points.cls = pt_own YX6_points.1)) = true := by decide +kernel
abbrev YX6_isSlot : pt_Y := (0, cX6_isSlot, 1, (some .boolean), ({ frames := 0, cells := 0, slots := 0, locals := 0 } : Room))
def tX6_isSlot : pt_B := [
  [(0, .iload_n 0, 1, 0), (1, .ifCond .lt 13, 3, 14), (4, .iload_n 0, 1, 0), (5, .bipush 6, 2, 0), (7, .if_icmp .ge 7, 3, 14), (10, .iconst 1, 1, 0), (11, .goto 4, 3, 15), (14, .iconst 0, 1, 0), (15, .ireturn, 1, 0)]]
set_option maxRecDepth 100000 in
theorem tX6_isSlot_ok : pt_ok YX6_isSlot.2.1 tX6_isSlot = true := by decide +kernel
theorem nX6_isSlot : (plainFor yX6_isSlot && decide (yX6_isSlot.cls = pt_own YX6_isSlot.1)) = true := by decide +kernel
abbrev YX6_isSize : pt_Y := (0, cX6_isSize, 1, (some .boolean), ({ frames := 0, cells := 0, slots := 0, locals := 0 } : Room))
def tX6_isSize : pt_B := [
  [(0, .iload_n 0, 1, 0), (1, .iconst 3, 1, 0), (2, .if_icmp .lt 13, 3, 15), (5, .iload_n 0, 1, 0), (6, .bipush 10, 2, 0), (8, .if_icmp .gt 7, 3, 15), (11, .iconst 1, 1, 0), (12, .goto 4, 3, 16), (15, .iconst 0, 1, 0)],
  [(16, .ireturn, 1, 0)]]
set_option maxRecDepth 100000 in
theorem tX6_isSize_ok : pt_ok YX6_isSize.2.1 tX6_isSize = true := by decide +kernel
theorem nX6_isSize : (plainFor yX6_isSize && decide (yX6_isSize.cls = pt_own YX6_isSize.1)) = true := by decide +kernel
abbrev YX6_turnsOf : pt_Y := (0, cX6_turnsOf, 1, (some .int), ({ frames := 0, cells := 0, slots := 0, locals := 0 } : Room))
def tX6_turnsOf : pt_B := [
  [(0, .iload_n 0, 1, 0), (1, .iload_n 0, 1, 0), (2, .iconst 1, 1, 0), (3, .isub, 1, 0), (4, .imul, 1, 0), (5, .iload_n 0, 1, 0), (6, .iconst 2, 1, 0), (7, .isub, 1, 0), (8, .imul, 1, 0), (9, .bipush 6, 2, 0), (11, .idiv, 1, 0), (12, .ireturn, 1, 0)]]
set_option maxRecDepth 100000 in
theorem tX6_turnsOf_ok : pt_ok YX6_turnsOf.2.1 tX6_turnsOf = true := by decide +kernel
theorem nX6_turnsOf : (plainFor yX6_turnsOf && decide (yX6_turnsOf.cls = pt_own YX6_turnsOf.1)) = true := by decide +kernel
abbrev YX6_swapsOf : pt_Y := (0, cX6_swapsOf, 1, (some .int), ({ frames := 0, cells := 0, slots := 0, locals := 0 } : Room))
def tX6_swapsOf : pt_B := [
  [(0, .iload_n 0, 1, 0), (1, .iload_n 0, 1, 0), (2, .iconst 1, 1, 0), (3, .isub, 1, 0), (4, .imul, 1, 0), (5, .iconst 2, 1, 0), (6, .idiv, 1, 0), (7, .ireturn, 1, 0)]]
set_option maxRecDepth 100000 in
theorem tX6_swapsOf_ok : pt_ok YX6_swapsOf.2.1 tX6_swapsOf = true := by decide +kernel
theorem nX6_swapsOf : (plainFor yX6_swapsOf && decide (yX6_swapsOf.cls = pt_own YX6_swapsOf.1)) = true := by decide +kernel
abbrev YX6_kindsOf : pt_Y := (0, cX6_kindsOf, 1, (some (.array .int)), ({ frames := 0, cells := 0, slots := 0, locals := 0 } : Room))
def tX6_kindsOf : pt_B := [
  [(0, .iload_n 0, 1, 0)],
  [],
  [(32, .getstatic 260, 3, 0), (35, .areturn, 1, 0), (36, .getstatic 263, 3, 0), (39, .areturn, 1, 0), (40, .getstatic 266, 3, 0), (43, .areturn, 1, 0), (44, .getstatic 269, 3, 0), (47, .areturn, 1, 0)],
  [(48, .getstatic 272, 3, 0), (51, .areturn, 1, 0)]]
set_option maxRecDepth 100000 in
theorem tX6_kindsOf_ok : pt_ok YX6_kindsOf.2.1 tX6_kindsOf = true := by decide +kernel
theorem nX6_kindsOf : (plainFor yX6_kindsOf && decide (yX6_kindsOf.cls = pt_own YX6_kindsOf.1)) = true := by decide +kernel
abbrev YX6_tableAt : pt_Y := (0, cX6_tableAt, 2, (some (.object "PointTables$Table")), ({ frames := 1, cells := 0, slots := 0, locals := 20 } : Room))
def tX6_tableAt : pt_B := [
  [(0, .iload_n 1, 1, 0), (1, .invokestatic 75, 3, 0), (4, .ifCond .eq 24, 3, 28), (7, .aload_n 0, 1, 0), (8, .getfield 11, 3, 0), (11, .iload_n 1, 1, 0), (12, .aaload, 1, 0), (13, .getfield 134, 3, 0)],
  [(16, .ifCond .le 12, 3, 28), (19, .aload_n 0, 1, 0), (20, .getfield 11, 3, 0), (23, .iload_n 1, 1, 0), (24, .aaload, 1, 0), (25, .goto 4, 3, 29), (28, .aconst_null, 1, 0), (29, .areturn, 1, 0)]]
set_option maxRecDepth 100000 in
theorem tX6_tableAt_ok : pt_ok YX6_tableAt.2.1 tX6_tableAt = true := by decide +kernel
theorem nX6_tableAt : (plainFor yX6_tableAt && decide (yX6_tableAt.cls = pt_own YX6_tableAt.1)) = true := by decide +kernel
abbrev YX6_lawfulAt : pt_Y := (0, cX6_lawfulAt, 3, (some (.object "PointTables$Table")), ({ frames := 5, cells := 0, slots := 0, locals := 122 } : Room))
def tX6_lawfulAt : pt_B := [
  [(0, .aload_n 0, 1, 0), (1, .iload_n 1, 1, 0), (2, .invokevirtual 120, 3, 0), (5, .astore_n 2, 1, 0), (6, .aload_n 2, 1, 0), (7, .ifnull 14, 3, 21), (10, .aload_n 2, 1, 0), (11, .invokestatic 157, 3, 0), (14, .ifCond .ne 7, 3, 21)],
  [(17, .aload_n 2, 1, 0), (18, .goto 4, 3, 22), (21, .aconst_null, 1, 0), (22, .areturn, 1, 0)]]
set_option maxRecDepth 100000 in
theorem tX6_lawfulAt_ok : pt_ok YX6_lawfulAt.2.1 tX6_lawfulAt = true := by decide +kernel
theorem nX6_lawfulAt : (plainFor yX6_lawfulAt && decide (yX6_lawfulAt.cls = pt_own YX6_lawfulAt.1)) = true := by decide +kernel
abbrev YX6_keepSpare : pt_Y := (0, cX6_keepSpare, 3, none, ({ frames := 1, cells := 0, slots := 0, locals := 20 } : Room))
def tX6_keepSpare : pt_B := [
  [(0, .iload_n 1, 1, 0), (1, .invokestatic 75, 3, 0), (4, .ifCond .eq 25, 3, 29), (7, .aload_n 0, 1, 0), (8, .getfield 11, 3, 0), (11, .iload_n 1, 1, 0), (12, .aaload, 1, 0), (13, .astore_n 2, 1, 0), (14, .aload_n 0, 1, 0), (15, .getfield 11, 3, 0)],
  [(18, .iload_n 1, 1, 0), (19, .aload_n 0, 1, 0), (20, .getfield 16, 3, 0), (23, .aastore, 1, 0), (24, .aload_n 0, 1, 0), (25, .aload_n 2, 1, 0), (26, .putfield 16, 3, 0), (29, .return_, 1, 0)]]
set_option maxRecDepth 100000 in
theorem tX6_keepSpare_ok : pt_ok YX6_keepSpare.2.1 tX6_keepSpare = true := by decide +kernel
theorem nX6_keepSpare : (plainFor yX6_keepSpare && decide (yX6_keepSpare.cls = pt_own YX6_keepSpare.1)) = true := by decide +kernel
abbrev YX6_setOut : pt_Y := (0, cX6_setOut, 3, none, ({ frames := 1, cells := 0, slots := 0, locals := 21 } : Room))
def tX6_setOut : pt_B := [
  [(0, .aload_n 0, 1, 0), (1, .iload_n 2, 1, 0), (2, .aload_n 1, 1, 0), (3, .arraylength, 1, 0), (4, .aload_n 0, 1, 0), (5, .getfield 41, 3, 0), (8, .arraylength, 1, 0), (9, .invokestatic 275, 3, 0), (12, .invokestatic 275, 3, 0), (15, .putfield 45, 3, 0)],
  [(18, .aload_n 1, 1, 0), (19, .iconst 0, 1, 0), (20, .aload_n 0, 1, 0), (21, .getfield 41, 3, 0), (24, .iconst 0, 1, 0), (25, .aload_n 0, 1, 0), (26, .getfield 45, 3, 0), (29, .invokestatic 278, 3, 0)],
  [(32, .return_, 1, 0)]]
set_option maxRecDepth 100000 in
theorem tX6_setOut_ok : pt_ok YX6_setOut.2.1 tX6_setOut = true := by decide +kernel
theorem nX6_setOut : (plainFor yX6_setOut && decide (yX6_setOut.cls = pt_own YX6_setOut.1)) = true := by decide +kernel

/-! methods: their instructions, by program -/
abbrev YX7_thrown : pt_Y := (7, cX7_thrown, 1, (some .int), ({ frames := 0, cells := 0, slots := 0, locals := 0 } : Room))
def tX7_thrown : pt_B := [
  [(0, .aload_n 0, 1, 0), (1, .getfield 64, 3, 0), (4, .ireturn, 1, 0)]]
set_option maxRecDepth 100000 in
theorem tX7_thrown_ok : pt_ok YX7_thrown.2.1 tX7_thrown = true := by decide +kernel
theorem nX7_thrown : (plainFor yX7_thrown && decide (yX7_thrown.cls = pt_own YX7_thrown.1)) = true := by decide +kernel
abbrev YX7_throwsIf : pt_Y := (7, cX7_throwsIf, 2, (some .boolean), ({ frames := 0, cells := 0, slots := 0, locals := 0 } : Room))
def tX7_throwsIf : pt_B := [
  [(0, .aload_n 0, 1, 0), (1, .iload_n 1, 1, 0), (2, .ifCond .eq 7, 3, 9), (5, .iconst 1, 1, 0), (6, .goto 4, 3, 10), (9, .iconst 0, 1, 0), (10, .putfield 64, 3, 0), (13, .iload_n 1, 1, 0), (14, .ireturn, 1, 0)]]
set_option maxRecDepth 100000 in
theorem tX7_throwsIf_ok : pt_ok YX7_throwsIf.2.1 tX7_throwsIf = true := by decide +kernel
theorem nX7_throwsIf : (plainFor yX7_throwsIf && decide (yX7_throwsIf.cls = pt_own YX7_throwsIf.1)) = true := by decide +kernel
abbrev YX7_feed : pt_Y := (7, cX7_feed, 6, (some .int), ({ frames := 1, cells := 0, slots := 0, locals := 22 } : Room))
def tX7_feed : pt_B := [
  [(0, .aload_n 0, 1, 0), (1, .iconst 0, 1, 0), (2, .putfield 64, 3, 0), (5, .aload_n 0, 1, 0), (6, .getfield 67, 3, 0), (9, .bipush 20, 2, 0), (11, .iadd, 1, 0), (12, .sipush 140, 3, 0), (15, .if_icmp .le 5, 3, 20)],
  [(18, .iconst (-1), 1, 0), (19, .ireturn, 1, 0), (20, .aload_n 0, 1, 0), (21, .iload_n 1, 1, 0), (22, .invokevirtual 70, 3, 0), (25, .aload_n 0, 1, 0), (26, .iload_n 2, 1, 0), (27, .invokevirtual 70, 3, 0), (30, .aload_n 0, 1, 0), (31, .iload_n 3, 1, 0)],
  [(32, .invokevirtual 70, 3, 0), (35, .aload_n 0, 1, 0), (36, .iload 4, 2, 0), (38, .invokevirtual 70, 3, 0), (41, .aload_n 0, 1, 0), (42, .iload 5, 2, 0), (44, .invokevirtual 70, 3, 0), (47, .aload_n 0, 1, 0)],
  [(48, .getfield 67, 3, 0), (51, .ireturn, 1, 0)]]
set_option maxRecDepth 100000 in
theorem tX7_feed_ok : pt_ok YX7_feed.2.1 tX7_feed = true := by decide +kernel
theorem nX7_feed : (plainFor yX7_feed && decide (yX7_feed.cls = pt_own YX7_feed.1)) = true := by decide +kernel
abbrev YX7_four : pt_Y := (7, cX7_four, 3, none, ({ frames := 0, cells := 0, slots := 0, locals := 0 } : Room))
def tX7_four : pt_B := [
  [(0, .bipush 24, 2, 0), (2, .istore_n 2, 1, 0), (3, .iload_n 2, 1, 0), (4, .ifCond .lt 32, 3, 36), (7, .aload_n 0, 1, 0), (8, .getfield 7, 3, 0), (11, .aload_n 0, 1, 0), (12, .getfield 67, 3, 0), (15, .iload_n 1, 1, 0)],
  [(16, .iload_n 2, 1, 0), (17, .ishr, 1, 0), (18, .i2b, 1, 0), (19, .bastore, 1, 0), (20, .aload_n 0, 1, 0), (21, .dup, 1, 0), (22, .getfield 67, 3, 0), (25, .iconst 1, 1, 0), (26, .iadd, 1, 0), (27, .putfield 67, 3, 0), (30, .iinc 2 (-8), 3, 0)],
  [(33, .goto (-30), 3, 3), (36, .return_, 1, 0)]]
set_option maxRecDepth 100000 in
theorem tX7_four_ok : pt_ok YX7_four.2.1 tX7_four = true := by decide +kernel
theorem nX7_four : (plainFor yX7_four && decide (yX7_four.cls = pt_own YX7_four.1)) = true := by decide +kernel
abbrev YX7_end : pt_Y := (7, cX7_end, 2, (some .boolean), ({ frames := 0, cells := 0, slots := 0, locals := 0 } : Room))
def tX7_end : pt_B := [
  [(0, .aload_n 0, 1, 0), (1, .iconst 0, 1, 0), (2, .putfield 64, 3, 0), (5, .iload_n 1, 1, 0), (6, .ifCond .lt 11, 3, 17), (9, .iload_n 1, 1, 0), (10, .aload_n 0, 1, 0), (11, .getfield 67, 3, 0), (14, .if_icmp .le 5, 3, 19)],
  [(17, .iconst 0, 1, 0), (18, .ireturn, 1, 0), (19, .aload_n 0, 1, 0), (20, .iload_n 1, 1, 0), (21, .putfield 67, 3, 0), (24, .iconst 1, 1, 0), (25, .ireturn, 1, 0)]]
set_option maxRecDepth 100000 in
theorem tX7_end_ok : pt_ok YX7_end.2.1 tX7_end = true := by decide +kernel
theorem nX7_end : (plainFor yX7_end && decide (yX7_end.cls = pt_own YX7_end.1)) = true := by decide +kernel
abbrev YX7_taken : pt_Y := (7, cX7_taken, 1, none, ({ frames := 0, cells := 0, slots := 0, locals := 0 } : Room))
def tX7_taken : pt_B := [
  [(0, .aload_n 0, 1, 0), (1, .aload_n 0, 1, 0), (2, .getfield 67, 3, 0), (5, .putfield 74, 3, 0), (8, .aload_n 0, 1, 0), (9, .iconst 0, 1, 0), (10, .putfield 67, 3, 0), (13, .return_, 1, 0)]]
set_option maxRecDepth 100000 in
theorem tX7_taken_ok : pt_ok YX7_taken.2.1 tX7_taken = true := by decide +kernel
theorem nX7_taken : (plainFor yX7_taken && decide (yX7_taken.cls = pt_own YX7_taken.1)) = true := by decide +kernel
abbrev YX7_three : pt_Y := (7, cX7_three, 3, (some .int), ({ frames := 0, cells := 0, slots := 0, locals := 0 } : Room))
def tX7_three : pt_B := [
  [(0, .iload_n 2, 1, 0), (1, .iload_n 2, 1, 0), (2, .iconst 1, 1, 0), (3, .isub, 1, 0), (4, .imul, 1, 0), (5, .iload_n 2, 1, 0), (6, .iconst 2, 1, 0), (7, .isub, 1, 0), (8, .imul, 1, 0), (9, .bipush 6, 2, 0), (11, .idiv, 1, 0), (12, .iload_n 1, 1, 0), (13, .iload_n 1, 1, 0), (14, .iconst 1, 1, 0), (15, .isub, 1, 0)],
  [(16, .imul, 1, 0), (17, .iconst 2, 1, 0), (18, .idiv, 1, 0), (19, .iadd, 1, 0), (20, .iload_n 0, 1, 0), (21, .iadd, 1, 0), (22, .ireturn, 1, 0)]]
set_option maxRecDepth 100000 in
theorem tX7_three_ok : pt_ok YX7_three.2.1 tX7_three = true := by decide +kernel
theorem nX7_three : (plainFor yX7_three && decide (yX7_three.cls = pt_own YX7_three.1)) = true := by decide +kernel
abbrev YX7_turnAt : pt_Y := (7, cX7_turnAt, 10, (some .int), ({ frames := 1, cells := 0, slots := 0, locals := 22 } : Room))
def tX7_turnAt : pt_B := [
  [(0, .iload_n 2, 1, 0), (1, .iload_n 3, 1, 0), (2, .if_icmp .ge 18, 3, 20), (5, .iload_n 2, 1, 0), (6, .iload 4, 2, 0), (8, .if_icmp .ge 7, 3, 15), (11, .iload_n 2, 1, 0), (12, .goto 20, 3, 32), (15, .iload 4, 2, 0)],
  [(17, .goto 15, 3, 32), (20, .iload_n 3, 1, 0), (21, .iload 4, 2, 0), (23, .if_icmp .ge 7, 3, 30), (26, .iload_n 3, 1, 0), (27, .goto 5, 3, 32), (30, .iload 4, 2, 0)],
  [(32, .istore 5, 2, 0), (34, .iload_n 2, 1, 0), (35, .iload_n 3, 1, 0), (36, .if_icmp .le 18, 3, 54), (39, .iload_n 2, 1, 0), (40, .iload 4, 2, 0), (42, .if_icmp .le 7, 3, 49), (45, .iload_n 2, 1, 0), (46, .goto 20, 3, 66)],
  [(49, .iload 4, 2, 0), (51, .goto 15, 3, 66), (54, .iload_n 3, 1, 0), (55, .iload 4, 2, 0), (57, .if_icmp .le 7, 3, 64), (60, .iload_n 3, 1, 0), (61, .goto 5, 3, 66)],
  [(64, .iload 4, 2, 0), (66, .istore 6, 2, 0), (68, .iload_n 2, 1, 0), (69, .iload_n 3, 1, 0), (70, .iadd, 1, 0), (71, .iload 4, 2, 0), (73, .iadd, 1, 0), (74, .iload 5, 2, 0), (76, .isub, 1, 0), (77, .iload 6, 2, 0), (79, .isub, 1, 0)],
  [(80, .istore 7, 2, 0), (82, .iload_n 2, 1, 0), (83, .iload 5, 2, 0), (85, .if_icmp .ne 9, 3, 94), (88, .iload_n 3, 1, 0), (89, .iload 7, 2, 0), (91, .if_icmp .eq 29, 3, 120), (94, .iload_n 3, 1, 0), (95, .iload 5, 2, 0)],
  [(97, .if_icmp .ne 10, 3, 107), (100, .iload 4, 2, 0), (102, .iload 7, 2, 0), (104, .if_icmp .eq 16, 3, 120), (107, .iload 4, 2, 0), (109, .iload 5, 2, 0), (111, .if_icmp .ne 13, 3, 124)],
  [(114, .iload_n 2, 1, 0), (115, .iload 7, 2, 0), (117, .if_icmp .ne 7, 3, 124), (120, .iconst 1, 1, 0), (121, .goto 4, 3, 125), (124, .iconst 0, 1, 0), (125, .istore 8, 2, 0), (127, .aload_n 0, 1, 0)],
  [(128, .getfield 17, 3, 0), (131, .iload_n 1, 1, 0), (132, .iload 5, 2, 0), (134, .iload 7, 2, 0), (136, .iload 6, 2, 0), (138, .invokestatic 77, 3, 0), (141, .iadd, 1, 0), (142, .iaload, 1, 0), (143, .istore 9, 2, 0)],
  [(145, .iload 8, 2, 0), (147, .ifCond .eq 8, 3, 155), (150, .iload 9, 2, 0), (152, .goto 6, 3, 158), (155, .iload 9, 2, 0), (157, .ineg, 1, 0), (158, .ireturn, 1, 0)]]
set_option maxRecDepth 100000 in
theorem tX7_turnAt_ok : pt_ok YX7_turnAt.2.1 tX7_turnAt = true := by decide +kernel
theorem nX7_turnAt : (plainFor yX7_turnAt && decide (yX7_turnAt.cls = pt_own YX7_turnAt.1)) = true := by decide +kernel
abbrev YX7_left : pt_Y := (7, cX7_left, 5, (some .boolean), ({ frames := 2, cells := 0, slots := 0, locals := 51 } : Room))
def tX7_left : pt_B := [
  [(0, .aload_n 0, 1, 0), (1, .iload_n 1, 1, 0), (2, .iload_n 2, 1, 0), (3, .iload_n 3, 1, 0), (4, .iload 4, 2, 0), (6, .invokevirtual 81, 3, 0), (9, .iconst 1, 1, 0), (10, .if_icmp .ne 7, 3, 17), (13, .iconst 1, 1, 0), (14, .goto 4, 3, 18)],
  [(17, .iconst 0, 1, 0), (18, .ireturn, 1, 0)]]
set_option maxRecDepth 100000 in
theorem tX7_left_ok : pt_ok YX7_left.2.1 tX7_left = true := by decide +kernel
theorem nX7_left : (plainFor yX7_left && decide (yX7_left.cls = pt_own YX7_left.1)) = true := by decide +kernel
abbrev YX7_set : pt_Y := (7, cX7_set, 6, none, ({ frames := 1, cells := 0, slots := 0, locals := 22 } : Room))
def tX7_set : pt_B := [
  [(0, .aload_n 0, 1, 0), (1, .getfield 17, 3, 0), (4, .iload_n 1, 1, 0), (5, .iload_n 2, 1, 0), (6, .iload_n 3, 1, 0), (7, .iload 4, 2, 0), (9, .invokestatic 77, 3, 0), (12, .iadd, 1, 0), (13, .iload 5, 2, 0), (15, .iastore, 1, 0)],
  [(16, .return_, 1, 0)]]
set_option maxRecDepth 100000 in
theorem tX7_set_ok : pt_ok YX7_set.2.1 tX7_set = true := by decide +kernel
theorem nX7_set : (plainFor yX7_set && decide (yX7_set.cls = pt_own YX7_set.1)) = true := by decide +kernel
abbrev YX7_isSlot : pt_Y := (7, cX7_isSlot, 1, (some .boolean), ({ frames := 0, cells := 0, slots := 0, locals := 0 } : Room))
def tX7_isSlot : pt_B := [
  [(0, .iload_n 0, 1, 0), (1, .ifCond .lt 13, 3, 14), (4, .iload_n 0, 1, 0), (5, .bipush 6, 2, 0), (7, .if_icmp .ge 7, 3, 14), (10, .iconst 1, 1, 0), (11, .goto 4, 3, 15), (14, .iconst 0, 1, 0), (15, .ireturn, 1, 0)]]
set_option maxRecDepth 100000 in
theorem tX7_isSlot_ok : pt_ok YX7_isSlot.2.1 tX7_isSlot = true := by decide +kernel
theorem nX7_isSlot : (plainFor yX7_isSlot && decide (yX7_isSlot.cls = pt_own YX7_isSlot.1)) = true := by decide +kernel
abbrev YX7_has : pt_Y := (7, cX7_has, 2, (some .boolean), ({ frames := 1, cells := 0, slots := 0, locals := 20 } : Room))
def tX7_has : pt_B := [
  [(0, .iload_n 1, 1, 0), (1, .invokestatic 85, 3, 0), (4, .ifCond .eq 16, 3, 20), (7, .aload_n 0, 1, 0), (8, .getfield 13, 3, 0), (11, .iload_n 1, 1, 0), (12, .iaload, 1, 0), (13, .ifCond .le 7, 3, 20)],
  [(16, .iconst 1, 1, 0), (17, .goto 4, 3, 21), (20, .iconst 0, 1, 0), (21, .ireturn, 1, 0)]]
set_option maxRecDepth 100000 in
theorem tX7_has_ok : pt_ok YX7_has.2.1 tX7_has = true := by decide +kernel
theorem nX7_has : (plainFor yX7_has && decide (yX7_has.cls = pt_own YX7_has.1)) = true := by decide +kernel
abbrev YX7_copy : pt_Y := (7, cX7_copy, 4, none, ({ frames := 0, cells := 0, slots := 0, locals := 0 } : Room))
def tX7_copy : pt_B := [
  [(0, .iconst 0, 1, 0), (1, .istore_n 3, 1, 0), (2, .iload_n 3, 1, 0), (3, .bipush 120, 2, 0), (5, .if_icmp .ge 25, 3, 30), (8, .aload_n 0, 1, 0), (9, .getfield 17, 3, 0), (12, .iload_n 2, 1, 0), (13, .iload_n 3, 1, 0), (14, .iadd, 1, 0), (15, .aload_n 0, 1, 0)],
  [(16, .getfield 17, 3, 0), (19, .iload_n 1, 1, 0), (20, .iload_n 3, 1, 0), (21, .iadd, 1, 0), (22, .iaload, 1, 0), (23, .iastore, 1, 0), (24, .iinc 3 1, 3, 0), (27, .goto (-25), 3, 2), (30, .return_, 1, 0)]]
set_option maxRecDepth 100000 in
theorem tX7_copy_ok : pt_ok YX7_copy.2.1 tX7_copy = true := by decide +kernel
theorem nX7_copy : (plainFor yX7_copy && decide (yX7_copy.cls = pt_own YX7_copy.1)) = true := by decide +kernel
abbrev YX7_points : pt_Y := (7, cX7_points, 2, (some .int), ({ frames := 2, cells := 0, slots := 0, locals := 41 } : Room))
def tX7_points : pt_B := [
  [(0, .aload_n 0, 1, 0), (1, .iconst 0, 1, 0), (2, .putfield 64, 3, 0), (5, .aload_n 0, 1, 0), (6, .iload_n 1, 1, 0), (7, .invokevirtual 89, 3, 0), (10, .ifCond .eq 12, 3, 22), (13, .aload_n 0, 1, 0), (14, .getfield 13, 3, 0)],
  [(17, .iload_n 1, 1, 0), (18, .iaload, 1, 0), (19, .goto 4, 3, 23), (22, .iconst 0, 1, 0), (23, .ireturn, 1, 0)]]
set_option maxRecDepth 100000 in
theorem tX7_points_ok : pt_ok YX7_points.2.1 tX7_points = true := by decide +kernel
theorem nX7_points : (plainFor yX7_points && decide (yX7_points.cls = pt_own YX7_points.1)) = true := by decide +kernel
abbrev YX7_place : pt_Y := (7, cX7_place, 8, (some .int), ({ frames := 2, cells := 0, slots := 0, locals := 47 } : Room))
def tX7_place : pt_B := [
  [(0, .aload_n 0, 1, 0), (1, .iconst 0, 1, 0), (2, .putfield 64, 3, 0), (5, .aload_n 0, 1, 0), (6, .invokevirtual 92, 3, 0), (9, .aload_n 0, 1, 0), (10, .getfield 74, 3, 0), (13, .iconst 4, 1, 0), (14, .idiv, 1, 0), (15, .istore_n 2, 1, 0)],
  [(16, .iload_n 1, 1, 0), (17, .invokestatic 85, 3, 0), (20, .ifCond .eq 23, 3, 43), (23, .aload_n 0, 1, 0), (24, .getfield 74, 3, 0), (27, .iconst 4, 1, 0), (28, .irem, 1, 0), (29, .ifCond .ne 14, 3, 43)],
  [(32, .iload_n 2, 1, 0), (33, .iconst 3, 1, 0), (34, .if_icmp .lt 9, 3, 43), (37, .iload_n 2, 1, 0), (38, .bipush 10, 2, 0), (40, .if_icmp .le 5, 3, 45), (43, .iconst 1, 1, 0), (44, .ireturn, 1, 0), (45, .iconst 0, 1, 0), (46, .istore_n 3, 1, 0), (47, .iload_n 3, 1, 0)],
  [(48, .iload_n 2, 1, 0), (49, .if_icmp .ge 131, 3, 180), (52, .aload_n 0, 1, 0), (53, .getfield 20, 3, 0), (56, .iload_n 3, 1, 0), (57, .aload_n 0, 1, 0), (58, .getfield 7, 3, 0), (61, .iconst 4, 1, 0), (62, .iload_n 3, 1, 0), (63, .imul, 1, 0)],
  [(64, .baload, 1, 0), (65, .bipush 8, 2, 0), (67, .ishl, 1, 0), (68, .aload_n 0, 1, 0), (69, .getfield 7, 3, 0), (72, .iconst 4, 1, 0), (73, .iload_n 3, 1, 0), (74, .imul, 1, 0), (75, .iconst 1, 1, 0), (76, .iadd, 1, 0), (77, .baload, 1, 0), (78, .sipush 255, 3, 0)],
  [(81, .iand, 1, 0), (82, .ior, 1, 0), (83, .i2l, 1, 0), (84, .lastore, 1, 0), (85, .aload_n 0, 1, 0), (86, .getfield 24, 3, 0), (89, .iload_n 3, 1, 0), (90, .aload_n 0, 1, 0), (91, .getfield 7, 3, 0), (94, .iconst 4, 1, 0), (95, .iload_n 3, 1, 0)],
  [(96, .imul, 1, 0), (97, .iconst 2, 1, 0), (98, .iadd, 1, 0), (99, .baload, 1, 0), (100, .bipush 8, 2, 0), (102, .ishl, 1, 0), (103, .aload_n 0, 1, 0), (104, .getfield 7, 3, 0), (107, .iconst 4, 1, 0), (108, .iload_n 3, 1, 0), (109, .imul, 1, 0), (110, .iconst 3, 1, 0), (111, .iadd, 1, 0)],
  [(112, .baload, 1, 0), (113, .sipush 255, 3, 0), (116, .iand, 1, 0), (117, .ior, 1, 0), (118, .i2l, 1, 0), (119, .lastore, 1, 0), (120, .aload_n 0, 1, 0), (121, .getfield 20, 3, 0), (124, .iload_n 3, 1, 0), (125, .laload, 1, 0), (126, .ldc2_w 95, 3, 0)],
  [(129, .lcmp, 1, 0), (130, .ifCond .lt 42, 3, 172), (133, .aload_n 0, 1, 0), (134, .getfield 20, 3, 0), (137, .iload_n 3, 1, 0), (138, .laload, 1, 0), (139, .ldc2_w 97, 3, 0), (142, .lcmp, 1, 0), (143, .ifCond .gt 29, 3, 172)],
  [(146, .aload_n 0, 1, 0), (147, .getfield 24, 3, 0), (150, .iload_n 3, 1, 0), (151, .laload, 1, 0), (152, .ldc2_w 95, 3, 0), (155, .lcmp, 1, 0), (156, .ifCond .lt 16, 3, 172), (159, .aload_n 0, 1, 0)],
  [(160, .getfield 24, 3, 0), (163, .iload_n 3, 1, 0), (164, .laload, 1, 0), (165, .ldc2_w 97, 3, 0), (168, .lcmp, 1, 0), (169, .ifCond .le 5, 3, 174), (172, .iconst 1, 1, 0), (173, .ireturn, 1, 0), (174, .iinc 3 1, 3, 0)],
  [(177, .goto (-130), 3, 47), (180, .iconst 0, 1, 0), (181, .istore_n 3, 1, 0), (182, .iload_n 3, 1, 0), (183, .iload_n 2, 1, 0), (184, .if_icmp .ge 155, 3, 339), (187, .iload_n 3, 1, 0), (188, .iconst 1, 1, 0), (189, .iadd, 1, 0), (190, .istore 4, 2, 0)],
  [(192, .iload 4, 2, 0), (194, .iload_n 2, 1, 0), (195, .if_icmp .ge 138, 3, 333), (198, .iload 4, 2, 0), (200, .iconst 1, 1, 0), (201, .iadd, 1, 0), (202, .istore 5, 2, 0), (204, .iload 5, 2, 0), (206, .iload_n 2, 1, 0), (207, .if_icmp .ge 120, 3, 327)],
  [(210, .aload_n 0, 1, 0), (211, .getfield 20, 3, 0), (214, .iload 4, 2, 0), (216, .laload, 1, 0), (217, .aload_n 0, 1, 0), (218, .getfield 20, 3, 0), (221, .iload_n 3, 1, 0), (222, .laload, 1, 0), (223, .lsub, 1, 0)],
  [(224, .aload_n 0, 1, 0), (225, .getfield 24, 3, 0), (228, .iload 5, 2, 0), (230, .laload, 1, 0), (231, .aload_n 0, 1, 0), (232, .getfield 24, 3, 0), (235, .iload_n 3, 1, 0), (236, .laload, 1, 0), (237, .lsub, 1, 0), (238, .lmul, 1, 0), (239, .aload_n 0, 1, 0)],
  [(240, .getfield 24, 3, 0), (243, .iload 4, 2, 0), (245, .laload, 1, 0), (246, .aload_n 0, 1, 0), (247, .getfield 24, 3, 0), (250, .iload_n 3, 1, 0), (251, .laload, 1, 0), (252, .lsub, 1, 0), (253, .aload_n 0, 1, 0), (254, .getfield 20, 3, 0)],
  [(257, .iload 5, 2, 0), (259, .laload, 1, 0), (260, .aload_n 0, 1, 0), (261, .getfield 20, 3, 0), (264, .iload_n 3, 1, 0), (265, .laload, 1, 0), (266, .lsub, 1, 0), (267, .lmul, 1, 0), (268, .lsub, 1, 0), (269, .lstore 6, 2, 0), (271, .lload 6, 2, 0)],
  [(273, .lconst 0, 1, 0), (274, .lcmp, 1, 0), (275, .ifCond .ne 22, 3, 297), (278, .aload_n 0, 1, 0), (279, .bipush 100, 2, 0), (281, .iload_n 3, 1, 0), (282, .imul, 1, 0), (283, .bipush 10, 2, 0), (285, .iload 4, 2, 0), (287, .imul, 1, 0)],
  [(288, .iadd, 1, 0), (289, .iload 5, 2, 0), (291, .iadd, 1, 0), (292, .putfield 27, 3, 0), (295, .iconst 2, 1, 0), (296, .ireturn, 1, 0), (297, .aload_n 0, 1, 0), (298, .sipush 720, 3, 0), (301, .iload_n 3, 1, 0), (302, .iload 4, 2, 0)],
  [(304, .iload 5, 2, 0), (306, .lload 6, 2, 0), (308, .lconst 0, 1, 0), (309, .lcmp, 1, 0), (310, .ifCond .le 7, 3, 317), (313, .iconst 1, 1, 0), (314, .goto 4, 3, 318), (317, .iconst (-1), 1, 0), (318, .invokevirtual 99, 3, 0)],
  [(321, .iinc 5 1, 3, 0), (324, .goto (-120), 3, 204), (327, .iinc 4 1, 3, 0), (330, .goto (-138), 3, 192), (333, .iinc 3 1, 3, 0)],
  [(336, .goto (-154), 3, 182), (339, .aload_n 0, 1, 0), (340, .sipush 720, 3, 0), (343, .bipush 120, 2, 0), (345, .iload_n 1, 1, 0), (346, .imul, 1, 0), (347, .invokevirtual 103, 3, 0), (350, .aload_n 0, 1, 0), (351, .getfield 13, 3, 0)],
  [(354, .iload_n 1, 1, 0), (355, .iload_n 2, 1, 0), (356, .iastore, 1, 0), (357, .iconst 0, 1, 0), (358, .ireturn, 1, 0)]]
set_option maxRecDepth 100000 in
theorem tX7_place_ok : pt_ok YX7_place.2.1 tX7_place = true := by decide +kernel
theorem nX7_place : (plainFor yX7_place && decide (yX7_place.cls = pt_own YX7_place.1)) = true := by decide +kernel
abbrev YX7_line : pt_Y := (7, cX7_line, 1, (some .int), ({ frames := 0, cells := 0, slots := 0, locals := 0 } : Room))
def tX7_line : pt_B := [
  [(0, .aload_n 0, 1, 0), (1, .iconst 0, 1, 0), (2, .putfield 64, 3, 0), (5, .aload_n 0, 1, 0), (6, .getfield 27, 3, 0), (9, .ireturn, 1, 0)]]
set_option maxRecDepth 100000 in
theorem tX7_line_ok : pt_ok YX7_line.2.1 tX7_line = true := by decide +kernel
theorem nX7_line : (plainFor yX7_line && decide (yX7_line.cls = pt_own YX7_line.1)) = true := by decide +kernel
abbrev YX7_table : pt_Y := (7, cX7_table, 7, (some .boolean), ({ frames := 2, cells := 0, slots := 0, locals := 47 } : Room))
def tX7_table : pt_B := [
  [(0, .aload_n 0, 1, 0), (1, .iconst 0, 1, 0), (2, .putfield 64, 3, 0), (5, .aload_n 0, 1, 0), (6, .invokevirtual 92, 3, 0), (9, .iload_n 1, 1, 0), (10, .invokestatic 85, 3, 0), (13, .ifCond .eq 36, 3, 49)],
  [(16, .iload_n 2, 1, 0), (17, .iconst 3, 1, 0), (18, .if_icmp .lt 31, 3, 49), (21, .iload_n 2, 1, 0), (22, .bipush 10, 2, 0), (24, .if_icmp .gt 25, 3, 49), (27, .bipush 8, 2, 0), (29, .aload_n 0, 1, 0), (30, .getfield 74, 3, 0)],
  [(33, .imul, 1, 0), (34, .iload_n 2, 1, 0), (35, .iload_n 2, 1, 0), (36, .iconst 1, 1, 0), (37, .isub, 1, 0), (38, .imul, 1, 0), (39, .iload_n 2, 1, 0), (40, .iconst 2, 1, 0), (41, .isub, 1, 0), (42, .imul, 1, 0), (43, .bipush 6, 2, 0), (45, .idiv, 1, 0), (46, .if_icmp .ge 5, 3, 51)],
  [(49, .iconst 0, 1, 0), (50, .ireturn, 1, 0), (51, .iconst 0, 1, 0), (52, .istore_n 3, 1, 0), (53, .iconst 0, 1, 0), (54, .istore 4, 2, 0), (56, .iload 4, 2, 0), (58, .iload_n 2, 1, 0), (59, .if_icmp .ge 90, 3, 149), (62, .iload 4, 2, 0)],
  [(64, .iconst 1, 1, 0), (65, .iadd, 1, 0), (66, .istore 5, 2, 0), (68, .iload 5, 2, 0), (70, .iload_n 2, 1, 0), (71, .if_icmp .ge 72, 3, 143), (74, .iload 5, 2, 0), (76, .iconst 1, 1, 0), (77, .iadd, 1, 0), (78, .istore 6, 2, 0)],
  [(80, .iload 6, 2, 0), (82, .iload_n 2, 1, 0), (83, .if_icmp .ge 54, 3, 137), (86, .aload_n 0, 1, 0), (87, .bipush 120, 2, 0), (89, .iload_n 1, 1, 0), (90, .imul, 1, 0), (91, .iload 4, 2, 0), (93, .iload 5, 2, 0), (95, .iload 6, 2, 0)],
  [(97, .aload_n 0, 1, 0), (98, .getfield 7, 3, 0), (101, .iload_n 3, 1, 0), (102, .bipush 8, 2, 0), (104, .idiv, 1, 0), (105, .baload, 1, 0), (106, .bipush 7, 2, 0), (108, .iload_n 3, 1, 0), (109, .bipush 8, 2, 0), (111, .irem, 1, 0)],
  [(112, .isub, 1, 0), (113, .ishr, 1, 0), (114, .iconst 1, 1, 0), (115, .iand, 1, 0), (116, .iconst 1, 1, 0), (117, .if_icmp .ne 7, 3, 124), (120, .iconst (-1), 1, 0), (121, .goto 4, 3, 125), (124, .iconst 1, 1, 0), (125, .invokevirtual 99, 3, 0)],
  [(128, .iinc 3 1, 3, 0), (131, .iinc 6 1, 3, 0), (134, .goto (-54), 3, 80), (137, .iinc 5 1, 3, 0), (140, .goto (-72), 3, 68), (143, .iinc 4 1, 3, 0)],
  [(146, .goto (-90), 3, 56), (149, .aload_n 0, 1, 0), (150, .getfield 13, 3, 0), (153, .iload_n 1, 1, 0), (154, .iload_n 2, 1, 0), (155, .iastore, 1, 0), (156, .iconst 1, 1, 0), (157, .ireturn, 1, 0)]]
set_option maxRecDepth 100000 in
theorem tX7_table_ok : pt_ok YX7_table.2.1 tX7_table = true := by decide +kernel
theorem nX7_table : (plainFor yX7_table && decide (yX7_table.cls = pt_own YX7_table.1)) = true := by decide +kernel
abbrev YX7_areThree : pt_Y := (7, cX7_areThree, 5, (some .boolean), ({ frames := 2, cells := 0, slots := 0, locals := 41 } : Room))
def tX7_areThree : pt_B := [
  [(0, .aload_n 0, 1, 0), (1, .iload_n 1, 1, 0), (2, .invokevirtual 89, 3, 0), (5, .ifCond .eq 68, 3, 73), (8, .iload_n 2, 1, 0), (9, .ifCond .lt 64, 3, 73), (12, .iload_n 3, 1, 0), (13, .ifCond .lt 60, 3, 73)],
  [(16, .iload 4, 2, 0), (18, .ifCond .lt 55, 3, 73), (21, .iload_n 2, 1, 0), (22, .aload_n 0, 1, 0), (23, .getfield 13, 3, 0), (26, .iload_n 1, 1, 0), (27, .iaload, 1, 0), (28, .if_icmp .ge 45, 3, 73), (31, .iload_n 3, 1, 0)],
  [(32, .aload_n 0, 1, 0), (33, .getfield 13, 3, 0), (36, .iload_n 1, 1, 0), (37, .iaload, 1, 0), (38, .if_icmp .ge 35, 3, 73), (41, .iload 4, 2, 0), (43, .aload_n 0, 1, 0), (44, .getfield 13, 3, 0), (47, .iload_n 1, 1, 0)],
  [(48, .iaload, 1, 0), (49, .if_icmp .ge 24, 3, 73), (52, .iload_n 2, 1, 0), (53, .iload_n 3, 1, 0), (54, .if_icmp .eq 19, 3, 73), (57, .iload_n 3, 1, 0), (58, .iload 4, 2, 0), (60, .if_icmp .eq 13, 3, 73), (63, .iload_n 2, 1, 0)],
  [(64, .iload 4, 2, 0), (66, .if_icmp .eq 7, 3, 73), (69, .iconst 1, 1, 0), (70, .goto 4, 3, 74), (73, .iconst 0, 1, 0), (74, .ireturn, 1, 0)]]
set_option maxRecDepth 100000 in
theorem tX7_areThree_ok : pt_ok YX7_areThree.2.1 tX7_areThree = true := by decide +kernel
theorem nX7_areThree : (plainFor yX7_areThree && decide (yX7_areThree.cls = pt_own YX7_areThree.1)) = true := by decide +kernel
abbrev YX7_turn : pt_Y := (7, cX7_turn, 5, (some .int), ({ frames := 3, cells := 0, slots := 0, locals := 65 } : Room))
def tX7_turn : pt_B := [
  [(0, .aload_n 0, 1, 0), (1, .iconst 0, 1, 0), (2, .putfield 64, 3, 0), (5, .aload_n 0, 1, 0), (6, .iload_n 1, 1, 0), (7, .iload_n 2, 1, 0), (8, .iload_n 3, 1, 0), (9, .iload 4, 2, 0), (11, .invokevirtual 107, 3, 0), (14, .ifCond .eq 18, 3, 32)],
  [(17, .aload_n 0, 1, 0), (18, .bipush 120, 2, 0), (20, .iload_n 1, 1, 0), (21, .imul, 1, 0), (22, .iload_n 2, 1, 0), (23, .iload_n 3, 1, 0), (24, .iload 4, 2, 0), (26, .invokevirtual 81, 3, 0), (29, .goto 4, 3, 33)],
  [(32, .iconst 0, 1, 0), (33, .ireturn, 1, 0)]]
set_option maxRecDepth 100000 in
theorem tX7_turn_ok : pt_ok YX7_turn.2.1 tX7_turn = true := by decide +kernel
theorem nX7_turn : (plainFor yX7_turn && decide (yX7_turn.cls = pt_own YX7_turn.1)) = true := by decide +kernel
abbrev YX7_flip : pt_Y := (7, cX7_flip, 8, (some .boolean), ({ frames := 3, cells := 0, slots := 0, locals := 65 } : Room))
def tX7_flip : pt_B := [
  [(0, .aload_n 0, 1, 0), (1, .iconst 0, 1, 0), (2, .putfield 64, 3, 0), (5, .aload_n 0, 1, 0), (6, .iload_n 1, 1, 0), (7, .iload_n 2, 1, 0), (8, .iload_n 3, 1, 0), (9, .iload 4, 2, 0), (11, .invokevirtual 107, 3, 0), (14, .ifCond .ne 5, 3, 19)],
  [(17, .iconst 0, 1, 0), (18, .ireturn, 1, 0), (19, .iload_n 2, 1, 0), (20, .iload_n 3, 1, 0), (21, .if_icmp .ge 18, 3, 39), (24, .iload_n 2, 1, 0), (25, .iload 4, 2, 0), (27, .if_icmp .ge 7, 3, 34), (30, .iload_n 2, 1, 0), (31, .goto 20, 3, 51)],
  [(34, .iload 4, 2, 0), (36, .goto 15, 3, 51), (39, .iload_n 3, 1, 0), (40, .iload 4, 2, 0), (42, .if_icmp .ge 7, 3, 49), (45, .iload_n 3, 1, 0), (46, .goto 5, 3, 51)],
  [(49, .iload 4, 2, 0), (51, .istore 5, 2, 0), (53, .iload_n 2, 1, 0), (54, .iload_n 3, 1, 0), (55, .if_icmp .le 18, 3, 73), (58, .iload_n 2, 1, 0), (59, .iload 4, 2, 0), (61, .if_icmp .le 7, 3, 68)],
  [(64, .iload_n 2, 1, 0), (65, .goto 20, 3, 85), (68, .iload 4, 2, 0), (70, .goto 15, 3, 85), (73, .iload_n 3, 1, 0), (74, .iload 4, 2, 0), (76, .if_icmp .le 7, 3, 83), (79, .iload_n 3, 1, 0)],
  [(80, .goto 5, 3, 85), (83, .iload 4, 2, 0), (85, .istore 6, 2, 0), (87, .bipush 120, 2, 0), (89, .iload_n 1, 1, 0), (90, .imul, 1, 0), (91, .iload 5, 2, 0), (93, .iload_n 2, 1, 0), (94, .iload_n 3, 1, 0), (95, .iadd, 1, 0)],
  [(96, .iload 4, 2, 0), (98, .iadd, 1, 0), (99, .iload 5, 2, 0), (101, .isub, 1, 0), (102, .iload 6, 2, 0), (104, .isub, 1, 0), (105, .iload 6, 2, 0), (107, .invokestatic 77, 3, 0), (110, .iadd, 1, 0), (111, .istore 7, 2, 0)],
  [(113, .aload_n 0, 1, 0), (114, .getfield 17, 3, 0), (117, .iload 7, 2, 0), (119, .aload_n 0, 1, 0), (120, .getfield 17, 3, 0), (123, .iload 7, 2, 0), (125, .iaload, 1, 0), (126, .ineg, 1, 0), (127, .iastore, 1, 0)],
  [(128, .iconst 1, 1, 0), (129, .ireturn, 1, 0)]]
set_option maxRecDepth 100000 in
theorem tX7_flip_ok : pt_ok YX7_flip.2.1 tX7_flip = true := by decide +kernel
theorem nX7_flip : (plainFor yX7_flip && decide (yX7_flip.cls = pt_own YX7_flip.1)) = true := by decide +kernel
abbrev YX7_turnAll : pt_Y := (7, cX7_turnAll, 3, none, ({ frames := 0, cells := 0, slots := 0, locals := 0 } : Room))
def tX7_turnAll : pt_B := [
  [(0, .iconst 0, 1, 0), (1, .istore_n 2, 1, 0), (2, .iload_n 2, 1, 0), (3, .bipush 120, 2, 0), (5, .if_icmp .ge 26, 3, 31), (8, .aload_n 0, 1, 0), (9, .getfield 17, 3, 0), (12, .iload_n 1, 1, 0), (13, .iload_n 2, 1, 0), (14, .iadd, 1, 0), (15, .aload_n 0, 1, 0)],
  [(16, .getfield 17, 3, 0), (19, .iload_n 1, 1, 0), (20, .iload_n 2, 1, 0), (21, .iadd, 1, 0), (22, .iaload, 1, 0), (23, .ineg, 1, 0), (24, .iastore, 1, 0), (25, .iinc 2 1, 3, 0), (28, .goto (-26), 3, 2), (31, .return_, 1, 0)]]
set_option maxRecDepth 100000 in
theorem tX7_turnAll_ok : pt_ok YX7_turnAll.2.1 tX7_turnAll = true := by decide +kernel
theorem nX7_turnAll : (plainFor yX7_turnAll && decide (yX7_turnAll.cls = pt_own YX7_turnAll.1)) = true := by decide +kernel
abbrev YX7_mirror : pt_Y := (7, cX7_mirror, 3, (some .boolean), ({ frames := 2, cells := 0, slots := 0, locals := 41 } : Room))
def tX7_mirror : pt_B := [
  [(0, .aload_n 0, 1, 0), (1, .iconst 0, 1, 0), (2, .putfield 64, 3, 0), (5, .iload_n 1, 1, 0), (6, .invokestatic 85, 3, 0), (9, .ifCond .eq 11, 3, 20), (12, .aload_n 0, 1, 0), (13, .iload_n 2, 1, 0), (14, .invokevirtual 89, 3, 0)],
  [(17, .ifCond .ne 5, 3, 22), (20, .iconst 0, 1, 0), (21, .ireturn, 1, 0), (22, .aload_n 0, 1, 0), (23, .bipush 120, 2, 0), (25, .iload_n 2, 1, 0), (26, .imul, 1, 0), (27, .bipush 120, 2, 0), (29, .iload_n 1, 1, 0), (30, .imul, 1, 0), (31, .invokevirtual 103, 3, 0)],
  [(34, .aload_n 0, 1, 0), (35, .bipush 120, 2, 0), (37, .iload_n 1, 1, 0), (38, .imul, 1, 0), (39, .invokevirtual 111, 3, 0), (42, .aload_n 0, 1, 0), (43, .getfield 13, 3, 0), (46, .iload_n 1, 1, 0), (47, .aload_n 0, 1, 0)],
  [(48, .getfield 13, 3, 0), (51, .iload_n 2, 1, 0), (52, .iaload, 1, 0), (53, .iastore, 1, 0), (54, .iconst 1, 1, 0), (55, .ireturn, 1, 0)]]
set_option maxRecDepth 100000 in
theorem tX7_mirror_ok : pt_ok YX7_mirror.2.1 tX7_mirror = true := by decide +kernel
theorem nX7_mirror : (plainFor yX7_mirror && decide (yX7_mirror.cls = pt_own YX7_mirror.1)) = true := by decide +kernel
abbrev YX7_pick : pt_Y := (7, cX7_pick, 7, none, ({ frames := 2, cells := 0, slots := 0, locals := 51 } : Room))
def tX7_pick : pt_B := [
  [(0, .iconst 0, 1, 0), (1, .istore 4, 2, 0), (3, .iload 4, 2, 0), (5, .iload_n 3, 1, 0), (6, .if_icmp .ge 84, 3, 90), (9, .iload 4, 2, 0), (11, .iconst 1, 1, 0), (12, .iadd, 1, 0), (13, .istore 5, 2, 0), (15, .iload 5, 2, 0)],
  [(17, .iload_n 3, 1, 0), (18, .if_icmp .ge 66, 3, 84), (21, .iload 5, 2, 0), (23, .iconst 1, 1, 0), (24, .iadd, 1, 0), (25, .istore 6, 2, 0), (27, .iload 6, 2, 0), (29, .iload_n 3, 1, 0), (30, .if_icmp .ge 48, 3, 78)],
  [(33, .aload_n 0, 1, 0), (34, .sipush 840, 3, 0), (37, .iload 4, 2, 0), (39, .iload 5, 2, 0), (41, .iload 6, 2, 0), (43, .aload_n 0, 1, 0), (44, .iload_n 1, 1, 0), (45, .aload_n 0, 1, 0), (46, .getfield 31, 3, 0)],
  [(49, .iload 4, 2, 0), (51, .iaload, 1, 0), (52, .aload_n 0, 1, 0), (53, .getfield 31, 3, 0), (56, .iload 5, 2, 0), (58, .iaload, 1, 0), (59, .aload_n 0, 1, 0), (60, .getfield 31, 3, 0), (63, .iload 6, 2, 0)],
  [(65, .iaload, 1, 0), (66, .invokevirtual 81, 3, 0), (69, .invokevirtual 99, 3, 0), (72, .iinc 6 1, 3, 0), (75, .goto (-48), 3, 27), (78, .iinc 5 1, 3, 0)],
  [(81, .goto (-66), 3, 15), (84, .iinc 4 1, 3, 0), (87, .goto (-84), 3, 3), (90, .aload_n 0, 1, 0), (91, .sipush 840, 3, 0), (94, .iload_n 2, 1, 0), (95, .invokevirtual 103, 3, 0)],
  [(98, .return_, 1, 0)]]
set_option maxRecDepth 100000 in
theorem tX7_pick_ok : pt_ok YX7_pick.2.1 tX7_pick = true := by decide +kernel
theorem nX7_pick : (plainFor yX7_pick && decide (yX7_pick.cls = pt_own YX7_pick.1)) = true := by decide +kernel
abbrev YX7_rename : pt_Y := (7, cX7_rename, 5, (some .boolean), ({ frames := 3, cells := 0, slots := 0, locals := 77 } : Room))
def tX7_rename : pt_B := [
  [(0, .aload_n 0, 1, 0), (1, .iconst 0, 1, 0), (2, .putfield 64, 3, 0), (5, .aload_n 0, 1, 0), (6, .invokevirtual 92, 3, 0), (9, .iload_n 1, 1, 0), (10, .invokestatic 85, 3, 0), (13, .ifCond .eq 24, 3, 37)],
  [(16, .aload_n 0, 1, 0), (17, .iload_n 2, 1, 0), (18, .invokevirtual 89, 3, 0), (21, .ifCond .eq 16, 3, 37), (24, .aload_n 0, 1, 0), (25, .getfield 74, 3, 0), (28, .aload_n 0, 1, 0), (29, .getfield 13, 3, 0)],
  [(32, .iload_n 2, 1, 0), (33, .iaload, 1, 0), (34, .if_icmp .eq 5, 3, 39), (37, .iconst 0, 1, 0), (38, .ireturn, 1, 0), (39, .iconst 0, 1, 0), (40, .istore_n 3, 1, 0), (41, .iconst 0, 1, 0), (42, .istore 4, 2, 0), (44, .iload 4, 2, 0), (46, .aload_n 0, 1, 0), (47, .getfield 74, 3, 0)],
  [(50, .if_icmp .ge 76, 3, 126), (53, .aload_n 0, 1, 0), (54, .getfield 7, 3, 0), (57, .iload 4, 2, 0), (59, .baload, 1, 0), (60, .ifCond .lt 32, 3, 92), (63, .aload_n 0, 1, 0)],
  [(64, .getfield 7, 3, 0), (67, .iload 4, 2, 0), (69, .baload, 1, 0), (70, .aload_n 0, 1, 0), (71, .getfield 74, 3, 0), (74, .if_icmp .ge 18, 3, 92), (77, .iload_n 3, 1, 0), (78, .aload_n 0, 1, 0), (79, .getfield 7, 3, 0)],
  [(82, .iload 4, 2, 0), (84, .baload, 1, 0), (85, .ishr, 1, 0), (86, .iconst 1, 1, 0), (87, .iand, 1, 0), (88, .iconst 1, 1, 0), (89, .if_icmp .ne 5, 3, 94), (92, .iconst 0, 1, 0), (93, .ireturn, 1, 0), (94, .iload_n 3, 1, 0), (95, .iconst 1, 1, 0)],
  [(96, .aload_n 0, 1, 0), (97, .getfield 7, 3, 0), (100, .iload 4, 2, 0), (102, .baload, 1, 0), (103, .ishl, 1, 0), (104, .ior, 1, 0), (105, .istore_n 3, 1, 0), (106, .aload_n 0, 1, 0), (107, .getfield 31, 3, 0), (110, .iload 4, 2, 0)],
  [(112, .aload_n 0, 1, 0), (113, .getfield 7, 3, 0), (116, .iload 4, 2, 0), (118, .baload, 1, 0), (119, .iastore, 1, 0), (120, .iinc 4 1, 3, 0), (123, .goto (-79), 3, 44), (126, .aload_n 0, 1, 0), (127, .bipush 120, 2, 0)],
  [(129, .iload_n 2, 1, 0), (130, .imul, 1, 0), (131, .bipush 120, 2, 0), (133, .iload_n 1, 1, 0), (134, .imul, 1, 0), (135, .aload_n 0, 1, 0), (136, .getfield 74, 3, 0), (139, .invokevirtual 114, 3, 0), (142, .aload_n 0, 1, 0), (143, .getfield 13, 3, 0)],
  [(146, .iload_n 1, 1, 0), (147, .aload_n 0, 1, 0), (148, .getfield 74, 3, 0), (151, .iastore, 1, 0), (152, .iconst 1, 1, 0), (153, .ireturn, 1, 0)]]
set_option maxRecDepth 100000 in
theorem tX7_rename_ok : pt_ok YX7_rename.2.1 tX7_rename = true := by decide +kernel
theorem nX7_rename : (plainFor yX7_rename && decide (yX7_rename.cls = pt_own YX7_rename.1)) = true := by decide +kernel
abbrev YX7_without : pt_Y := (7, cX7_without, 6, (some .boolean), ({ frames := 3, cells := 0, slots := 0, locals := 77 } : Room))
def tX7_without : pt_B := [
  [(0, .aload_n 0, 1, 0), (1, .iconst 0, 1, 0), (2, .putfield 64, 3, 0), (5, .iload_n 1, 1, 0), (6, .invokestatic 85, 3, 0), (9, .ifCond .eq 35, 3, 44), (12, .aload_n 0, 1, 0), (13, .iload_n 2, 1, 0), (14, .invokevirtual 89, 3, 0)],
  [(17, .ifCond .eq 27, 3, 44), (20, .iload_n 3, 1, 0), (21, .ifCond .lt 23, 3, 44), (24, .iload_n 3, 1, 0), (25, .aload_n 0, 1, 0), (26, .getfield 13, 3, 0), (29, .iload_n 2, 1, 0), (30, .iaload, 1, 0), (31, .if_icmp .ge 13, 3, 44)],
  [(34, .aload_n 0, 1, 0), (35, .getfield 13, 3, 0), (38, .iload_n 2, 1, 0), (39, .iaload, 1, 0), (40, .iconst 3, 1, 0), (41, .if_icmp .ne 5, 3, 46), (44, .iconst 0, 1, 0), (45, .ireturn, 1, 0), (46, .aload_n 0, 1, 0), (47, .getfield 13, 3, 0)],
  [(50, .iload_n 2, 1, 0), (51, .iaload, 1, 0), (52, .iconst 1, 1, 0), (53, .isub, 1, 0), (54, .istore 4, 2, 0), (56, .iconst 0, 1, 0), (57, .istore 5, 2, 0), (59, .iload 5, 2, 0), (61, .iload 4, 2, 0), (63, .if_icmp .ge 31, 3, 94)],
  [(66, .aload_n 0, 1, 0), (67, .getfield 31, 3, 0), (70, .iload 5, 2, 0), (72, .iload 5, 2, 0), (74, .iload_n 3, 1, 0), (75, .if_icmp .ge 8, 3, 83), (78, .iload 5, 2, 0)],
  [(80, .goto 7, 3, 87), (83, .iload 5, 2, 0), (85, .iconst 1, 1, 0), (86, .iadd, 1, 0), (87, .iastore, 1, 0), (88, .iinc 5 1, 3, 0), (91, .goto (-32), 3, 59), (94, .aload_n 0, 1, 0), (95, .bipush 120, 2, 0)],
  [(97, .iload_n 2, 1, 0), (98, .imul, 1, 0), (99, .bipush 120, 2, 0), (101, .iload_n 1, 1, 0), (102, .imul, 1, 0), (103, .iload 4, 2, 0), (105, .invokevirtual 114, 3, 0), (108, .aload_n 0, 1, 0), (109, .getfield 13, 3, 0)],
  [(112, .iload_n 1, 1, 0), (113, .iload 4, 2, 0), (115, .iastore, 1, 0), (116, .iconst 1, 1, 0), (117, .ireturn, 1, 0)]]
set_option maxRecDepth 100000 in
theorem tX7_without_ok : pt_ok YX7_without.2.1 tX7_without = true := by decide +kernel
theorem nX7_without : (plainFor yX7_without && decide (yX7_without.cls = pt_own YX7_without.1)) = true := by decide +kernel
abbrev YX7_breaksFour : pt_Y := (7, cX7_breaksFour, 6, (some .boolean), ({ frames := 3, cells := 0, slots := 0, locals := 75 } : Room))
def tX7_breaksFour : pt_B := [
  [(0, .aload_n 0, 1, 0), (1, .iload_n 1, 1, 0), (2, .iload_n 2, 1, 0), (3, .iload_n 3, 1, 0), (4, .iload 5, 2, 0), (6, .invokevirtual 118, 3, 0), (9, .ifCond .eq 45, 3, 54), (12, .aload_n 0, 1, 0), (13, .iload_n 1, 1, 0), (14, .iload_n 3, 1, 0), (15, .iload 4, 2, 0)],
  [(17, .iload 5, 2, 0), (19, .invokevirtual 118, 3, 0), (22, .ifCond .eq 32, 3, 54), (25, .aload_n 0, 1, 0), (26, .iload_n 1, 1, 0), (27, .iload 4, 2, 0), (29, .iload_n 2, 1, 0), (30, .iload 5, 2, 0)],
  [(32, .invokevirtual 118, 3, 0), (35, .ifCond .eq 19, 3, 54), (38, .aload_n 0, 1, 0), (39, .iload_n 1, 1, 0), (40, .iload_n 2, 1, 0), (41, .iload_n 3, 1, 0), (42, .iload 4, 2, 0), (44, .invokevirtual 118, 3, 0), (47, .ifCond .ne 7, 3, 54)],
  [(50, .iconst 1, 1, 0), (51, .goto 4, 3, 55), (54, .iconst 0, 1, 0), (55, .ireturn, 1, 0)]]
set_option maxRecDepth 100000 in
theorem tX7_breaksFour_ok : pt_ok YX7_breaksFour.2.1 tX7_breaksFour = true := by decide +kernel
theorem nX7_breaksFour : (plainFor yX7_breaksFour && decide (yX7_breaksFour.cls = pt_own YX7_breaksFour.1)) = true := by decide +kernel
abbrev YX7_breaksFive : pt_Y := (7, cX7_breaksFive, 10, (some .boolean), ({ frames := 2, cells := 0, slots := 0, locals := 51 } : Room))
def tX7_breaksFive : pt_B := [
  [(0, .aload_n 0, 1, 0), (1, .iload_n 1, 1, 0), (2, .iload_n 2, 1, 0), (3, .iload_n 3, 1, 0), (4, .iload 4, 2, 0), (6, .invokevirtual 81, 3, 0), (9, .aload_n 0, 1, 0), (10, .iload_n 1, 1, 0), (11, .iload_n 2, 1, 0), (12, .iload 5, 2, 0), (14, .iload 6, 2, 0)],
  [(16, .invokevirtual 81, 3, 0), (19, .imul, 1, 0), (20, .istore 7, 2, 0), (22, .aload_n 0, 1, 0), (23, .iload_n 1, 1, 0), (24, .iload_n 2, 1, 0), (25, .iload_n 3, 1, 0), (26, .iload 5, 2, 0), (28, .invokevirtual 81, 3, 0), (31, .ineg, 1, 0)],
  [(32, .aload_n 0, 1, 0), (33, .iload_n 1, 1, 0), (34, .iload_n 2, 1, 0), (35, .iload 4, 2, 0), (37, .iload 6, 2, 0), (39, .invokevirtual 81, 3, 0), (42, .imul, 1, 0), (43, .istore 8, 2, 0), (45, .aload_n 0, 1, 0), (46, .iload_n 1, 1, 0), (47, .iload_n 2, 1, 0)],
  [(48, .iload_n 3, 1, 0), (49, .iload 6, 2, 0), (51, .invokevirtual 81, 3, 0), (54, .aload_n 0, 1, 0), (55, .iload_n 1, 1, 0), (56, .iload_n 2, 1, 0), (57, .iload 4, 2, 0), (59, .iload 5, 2, 0), (61, .invokevirtual 81, 3, 0)],
  [(64, .imul, 1, 0), (65, .istore 9, 2, 0), (67, .iload 7, 2, 0), (69, .iload 8, 2, 0), (71, .if_icmp .ne 14, 3, 85), (74, .iload 8, 2, 0), (76, .iload 9, 2, 0), (78, .if_icmp .ne 7, 3, 85)],
  [(81, .iconst 1, 1, 0), (82, .goto 4, 3, 86), (85, .iconst 0, 1, 0), (86, .ireturn, 1, 0)]]
set_option maxRecDepth 100000 in
theorem tX7_breaksFive_ok : pt_ok YX7_breaksFive.2.1 tX7_breaksFive = true := by decide +kernel
theorem nX7_breaksFive : (plainFor yX7_breaksFive && decide (yX7_breaksFive.cls = pt_own YX7_breaksFive.1)) = true := by decide +kernel
abbrev YX7_breaks : pt_Y := (7, cX7_breaks, 9, (some .boolean), ({ frames := 4, cells := 0, slots := 0, locals := 100 } : Room))
def tX7_breaks : pt_B := [
  [(0, .iconst 0, 1, 0), (1, .istore 4, 2, 0), (3, .iconst 0, 1, 0), (4, .istore 5, 2, 0), (6, .iload 5, 2, 0), (8, .iload_n 2, 1, 0), (9, .if_icmp .ge 33, 3, 42), (12, .iload_n 3, 1, 0), (13, .iload 5, 2, 0), (15, .ishr, 1, 0)],
  [(16, .iconst 1, 1, 0), (17, .iand, 1, 0), (18, .ifCond .ne 6, 3, 24), (21, .goto 15, 3, 36), (24, .aload_n 0, 1, 0), (25, .getfield 34, 3, 0), (28, .iload 4, 2, 0), (30, .iload 5, 2, 0)],
  [(32, .iastore, 1, 0), (33, .iinc 4 1, 3, 0), (36, .iinc 5 1, 3, 0), (39, .goto (-33), 3, 6), (42, .iconst 0, 1, 0), (43, .istore 5, 2, 0), (45, .iload 5, 2, 0), (47, .iload 4, 2, 0)],
  [(49, .if_icmp .ge 207, 3, 256), (52, .iconst 0, 1, 0), (53, .istore 6, 2, 0), (55, .iload 6, 2, 0), (57, .iload 4, 2, 0), (59, .if_icmp .ge 191, 3, 250), (62, .iconst 0, 1, 0), (63, .istore 7, 2, 0)],
  [(65, .iload 7, 2, 0), (67, .iload 4, 2, 0), (69, .if_icmp .ge 175, 3, 244), (72, .iload 5, 2, 0), (74, .iload 6, 2, 0), (76, .if_icmp .eq 162, 3, 238), (79, .iload 6, 2, 0)],
  [(81, .iload 7, 2, 0), (83, .if_icmp .eq 155, 3, 238), (86, .iload 5, 2, 0), (88, .iload 7, 2, 0), (90, .if_icmp .ne 6, 3, 96), (93, .goto 145, 3, 238)],
  [(96, .iconst 0, 1, 0), (97, .istore 8, 2, 0), (99, .iload 8, 2, 0), (101, .iload 4, 2, 0), (103, .if_icmp .ge 135, 3, 238), (106, .iload 8, 2, 0), (108, .iload 5, 2, 0), (110, .if_icmp .eq 122, 3, 232)],
  [(113, .iload 8, 2, 0), (115, .iload 6, 2, 0), (117, .if_icmp .eq 115, 3, 232), (120, .iload 8, 2, 0), (122, .iload 7, 2, 0), (124, .if_icmp .ne 6, 3, 130), (127, .goto 105, 3, 232)],
  [(130, .iload 4, 2, 0), (132, .iconst 4, 1, 0), (133, .if_icmp .ne 42, 3, 175), (136, .aload_n 0, 1, 0), (137, .iload_n 1, 1, 0), (138, .aload_n 0, 1, 0), (139, .getfield 34, 3, 0), (142, .iload 5, 2, 0)],
  [(144, .iaload, 1, 0), (145, .aload_n 0, 1, 0), (146, .getfield 34, 3, 0), (149, .iload 6, 2, 0), (151, .iaload, 1, 0), (152, .aload_n 0, 1, 0), (153, .getfield 34, 3, 0), (156, .iload 7, 2, 0), (158, .iaload, 1, 0), (159, .aload_n 0, 1, 0)],
  [(160, .getfield 34, 3, 0), (163, .iload 8, 2, 0), (165, .iaload, 1, 0), (166, .invokevirtual 121, 3, 0), (169, .ifCond .eq 63, 3, 232), (172, .goto 58, 3, 230), (175, .aload_n 0, 1, 0)],
  [(176, .iload_n 1, 1, 0), (177, .aload_n 0, 1, 0), (178, .getfield 34, 3, 0), (181, .iload 5, 2, 0), (183, .iaload, 1, 0), (184, .aload_n 0, 1, 0), (185, .getfield 34, 3, 0), (188, .iload 6, 2, 0), (190, .iaload, 1, 0), (191, .aload_n 0, 1, 0)],
  [(192, .getfield 34, 3, 0), (195, .iload 7, 2, 0), (197, .iaload, 1, 0), (198, .aload_n 0, 1, 0), (199, .getfield 34, 3, 0), (202, .iload 8, 2, 0), (204, .iaload, 1, 0), (205, .aload_n 0, 1, 0), (206, .getfield 34, 3, 0)],
  [(209, .bipush 10, 2, 0), (211, .iload 5, 2, 0), (213, .isub, 1, 0), (214, .iload 6, 2, 0), (216, .isub, 1, 0), (217, .iload 7, 2, 0), (219, .isub, 1, 0), (220, .iload 8, 2, 0), (222, .isub, 1, 0), (223, .iaload, 1, 0)],
  [(224, .invokevirtual 125, 3, 0), (227, .ifCond .eq 5, 3, 232), (230, .iconst 1, 1, 0), (231, .ireturn, 1, 0), (232, .iinc 8 1, 3, 0), (235, .goto (-136), 3, 99), (238, .iinc 7 1, 3, 0)],
  [(241, .goto (-176), 3, 65), (244, .iinc 6 1, 3, 0), (247, .goto (-192), 3, 55), (250, .iinc 5 1, 3, 0), (253, .goto (-208), 3, 45)],
  [(256, .iconst 0, 1, 0), (257, .ireturn, 1, 0)]]
set_option maxRecDepth 100000 in
theorem tX7_breaks_ok : pt_ok YX7_breaks.2.1 tX7_breaks = true := by decide +kernel
theorem nX7_breaks : (plainFor yX7_breaks && decide (yX7_breaks.cls = pt_own YX7_breaks.1)) = true := by decide +kernel
abbrev YX7_bits : pt_Y := (7, cX7_bits, 3, (some .int), ({ frames := 0, cells := 0, slots := 0, locals := 0 } : Room))
def tX7_bits : pt_B := [
  [(0, .iconst 0, 1, 0), (1, .istore_n 1, 1, 0), (2, .iconst 0, 1, 0), (3, .istore_n 2, 1, 0), (4, .iload_n 2, 1, 0), (5, .bipush 10, 2, 0), (7, .if_icmp .ge 17, 3, 24), (10, .iload_n 1, 1, 0), (11, .iload_n 0, 1, 0), (12, .iload_n 2, 1, 0), (13, .ishr, 1, 0), (14, .iconst 1, 1, 0), (15, .iand, 1, 0)],
  [(16, .iadd, 1, 0), (17, .istore_n 1, 1, 0), (18, .iinc 2 1, 3, 0), (21, .goto (-17), 3, 4), (24, .iload_n 1, 1, 0), (25, .ireturn, 1, 0)]]
set_option maxRecDepth 100000 in
theorem tX7_bits_ok : pt_ok YX7_bits.2.1 tX7_bits = true := by decide +kernel
theorem nX7_bits : (plainFor yX7_bits && decide (yX7_bits.cls = pt_own YX7_bits.1)) = true := by decide +kernel
abbrev YX7_whyNot : pt_Y := (7, cX7_whyNot, 7, (some .int), ({ frames := 5, cells := 0, slots := 0, locals := 128 } : Room))
def tX7_whyNot : pt_B := [
  [(0, .iconst 4, 1, 0), (1, .istore_n 3, 1, 0), (2, .iload_n 3, 1, 0), (3, .bipush 6, 2, 0), (5, .if_icmp .ge 90, 3, 95), (8, .iconst 1, 1, 0), (9, .iload_n 2, 1, 0), (10, .ishl, 1, 0), (11, .iconst 1, 1, 0), (12, .isub, 1, 0), (13, .istore 4, 2, 0), (15, .iload 4, 2, 0)],
  [(17, .ifCond .le 72, 3, 89), (20, .iload 4, 2, 0), (22, .invokestatic 129, 3, 0), (25, .iload_n 3, 1, 0), (26, .if_icmp .eq 6, 3, 32), (29, .goto 54, 3, 83)],
  [(32, .iconst 0, 1, 0), (33, .istore 5, 2, 0), (35, .iconst 0, 1, 0), (36, .istore 6, 2, 0), (38, .iload 6, 2, 0), (40, .iload_n 2, 1, 0), (41, .if_icmp .ge 28, 3, 69), (44, .iload 5, 2, 0), (46, .iload 4, 2, 0)],
  [(48, .iload_n 2, 1, 0), (49, .iconst 1, 1, 0), (50, .isub, 1, 0), (51, .iload 6, 2, 0), (53, .isub, 1, 0), (54, .ishr, 1, 0), (55, .iconst 1, 1, 0), (56, .iand, 1, 0), (57, .iload 6, 2, 0), (59, .ishl, 1, 0), (60, .ior, 1, 0), (61, .istore 5, 2, 0), (63, .iinc 6 1, 3, 0)],
  [(66, .goto (-28), 3, 38), (69, .aload_n 0, 1, 0), (70, .iload_n 1, 1, 0), (71, .iload_n 2, 1, 0), (72, .iload 5, 2, 0), (74, .invokevirtual 133, 3, 0), (77, .ifCond .eq 6, 3, 83)],
  [(80, .iload 5, 2, 0), (82, .ireturn, 1, 0), (83, .iinc 4 (-1), 3, 0), (86, .goto (-71), 3, 15), (89, .iinc 3 1, 3, 0), (92, .goto (-90), 3, 2), (95, .iconst 0, 1, 0)],
  [(96, .ireturn, 1, 0)]]
set_option maxRecDepth 100000 in
theorem tX7_whyNot_ok : pt_ok YX7_whyNot.2.1 tX7_whyNot = true := by decide +kernel
theorem nX7_whyNot : (plainFor yX7_whyNot && decide (yX7_whyNot.cls = pt_own YX7_whyNot.1)) = true := by decide +kernel
abbrev YX7_isLawful : pt_Y := (7, cX7_isLawful, 2, (some .boolean), ({ frames := 6, cells := 0, slots := 0, locals := 154 } : Room))
def tX7_isLawful : pt_B := [
  [(0, .aload_n 0, 1, 0), (1, .iload_n 1, 1, 0), (2, .invokevirtual 89, 3, 0), (5, .ifCond .eq 24, 3, 29), (8, .aload_n 0, 1, 0), (9, .bipush 120, 2, 0), (11, .iload_n 1, 1, 0), (12, .imul, 1, 0), (13, .aload_n 0, 1, 0), (14, .getfield 13, 3, 0)],
  [(17, .iload_n 1, 1, 0), (18, .iaload, 1, 0), (19, .invokevirtual 137, 3, 0), (22, .ifCond .ne 7, 3, 29), (25, .iconst 1, 1, 0), (26, .goto 4, 3, 30), (29, .iconst 0, 1, 0), (30, .ireturn, 1, 0)]]
set_option maxRecDepth 100000 in
theorem tX7_isLawful_ok : pt_ok YX7_isLawful.2.1 tX7_isLawful = true := by decide +kernel
theorem nX7_isLawful : (plainFor yX7_isLawful && decide (yX7_isLawful.cls = pt_own YX7_isLawful.1)) = true := by decide +kernel
abbrev YX7_lawful : pt_Y := (7, cX7_lawful, 2, (some .int), ({ frames := 7, cells := 0, slots := 0, locals := 175 } : Room))
def tX7_lawful : pt_B := [
  [(0, .aload_n 0, 1, 0), (1, .iconst 0, 1, 0), (2, .putfield 64, 3, 0), (5, .aload_n 0, 1, 0), (6, .iload_n 1, 1, 0), (7, .invokevirtual 89, 3, 0), (10, .ifCond .eq 19, 3, 29), (13, .aload_n 0, 1, 0), (14, .iload_n 1, 1, 0), (15, .invokevirtual 141, 3, 0)],
  [(18, .ifCond .eq 7, 3, 25), (21, .iconst 1, 1, 0), (22, .goto 8, 3, 30), (25, .iconst 0, 1, 0), (26, .goto 4, 3, 30), (29, .iconst (-1), 1, 0), (30, .ireturn, 1, 0)]]
set_option maxRecDepth 100000 in
theorem tX7_lawful_ok : pt_ok YX7_lawful.2.1 tX7_lawful = true := by decide +kernel
theorem nX7_lawful : (plainFor yX7_lawful && decide (yX7_lawful.cls = pt_own YX7_lawful.1)) = true := by decide +kernel
abbrev YX7_why : pt_Y := (7, cX7_why, 2, (some .int), ({ frames := 6, cells := 0, slots := 0, locals := 154 } : Room))
def tX7_why : pt_B := [
  [(0, .aload_n 0, 1, 0), (1, .iconst 0, 1, 0), (2, .putfield 64, 3, 0), (5, .aload_n 0, 1, 0), (6, .iload_n 1, 1, 0), (7, .invokevirtual 89, 3, 0), (10, .ifCond .eq 20, 3, 30), (13, .aload_n 0, 1, 0), (14, .bipush 120, 2, 0)],
  [(16, .iload_n 1, 1, 0), (17, .imul, 1, 0), (18, .aload_n 0, 1, 0), (19, .getfield 13, 3, 0), (22, .iload_n 1, 1, 0), (23, .iaload, 1, 0), (24, .invokevirtual 137, 3, 0), (27, .goto 4, 3, 31), (30, .iconst (-1), 1, 0), (31, .ireturn, 1, 0)]]
set_option maxRecDepth 100000 in
theorem tX7_why_ok : pt_ok YX7_why.2.1 tX7_why = true := by decide +kernel
theorem nX7_why : (plainFor yX7_why && decide (yX7_why.cls = pt_own YX7_why.1)) = true := by decide +kernel
abbrev YX7_nextTo : pt_Y := (7, cX7_nextTo, 7, (some .int), ({ frames := 3, cells := 0, slots := 0, locals := 75 } : Room))
def tX7_nextTo : pt_B := [
  [(0, .iconst 0, 1, 0), (1, .istore 4, 2, 0), (3, .iload 4, 2, 0), (5, .bipush 10, 2, 0), (7, .if_icmp .ge 101, 3, 108), (10, .iload 4, 2, 0), (12, .iload_n 3, 1, 0), (13, .if_icmp .eq 89, 3, 102)],
  [(16, .iload_n 2, 1, 0), (17, .iload 4, 2, 0), (19, .ishr, 1, 0), (20, .iconst 1, 1, 0), (21, .iand, 1, 0), (22, .ifCond .ne 6, 3, 28), (25, .goto 77, 3, 102), (28, .iconst 1, 1, 0), (29, .istore 5, 2, 0), (31, .iconst 0, 1, 0)],
  [(32, .istore 6, 2, 0), (34, .iload 6, 2, 0), (36, .bipush 10, 2, 0), (38, .if_icmp .ge 56, 3, 94), (41, .iload 5, 2, 0), (43, .ifCond .eq 42, 3, 85), (46, .iload 6, 2, 0)],
  [(48, .iload_n 3, 1, 0), (49, .if_icmp .eq 32, 3, 81), (52, .iload 6, 2, 0), (54, .iload 4, 2, 0), (56, .if_icmp .eq 25, 3, 81), (59, .iload_n 2, 1, 0), (60, .iload 6, 2, 0), (62, .ishr, 1, 0), (63, .iconst 1, 1, 0)],
  [(64, .iand, 1, 0), (65, .ifCond .eq 16, 3, 81), (68, .aload_n 0, 1, 0), (69, .iload_n 1, 1, 0), (70, .iload_n 3, 1, 0), (71, .iload 4, 2, 0), (73, .iload 6, 2, 0), (75, .invokevirtual 118, 3, 0), (78, .ifCond .eq 7, 3, 85)],
  [(81, .iconst 1, 1, 0), (82, .goto 4, 3, 86), (85, .iconst 0, 1, 0), (86, .istore 5, 2, 0), (88, .iinc 6 1, 3, 0), (91, .goto (-57), 3, 34), (94, .iload 5, 2, 0)],
  [(96, .ifCond .eq 6, 3, 102), (99, .iload 4, 2, 0), (101, .ireturn, 1, 0), (102, .iinc 4 1, 3, 0), (105, .goto (-102), 3, 3), (108, .iconst (-1), 1, 0), (109, .ireturn, 1, 0)]]
set_option maxRecDepth 100000 in
theorem tX7_nextTo_ok : pt_ok YX7_nextTo.2.1 tX7_nextTo = true := by decide +kernel
theorem nX7_nextTo : (plainFor yX7_nextTo && decide (yX7_nextTo.cls = pt_own YX7_nextTo.1)) = true := by decide +kernel
abbrev YX7_rimOf : pt_Y := (7, cX7_rimOf, 5, (some .int), ({ frames := 4, cells := 0, slots := 0, locals := 101 } : Room))
def tX7_rimOf : pt_B := [
  [(0, .iload_n 2, 1, 0), (1, .invokestatic 129, 3, 0), (4, .iconst 3, 1, 0), (5, .if_icmp .ge 5, 3, 10), (8, .iload_n 2, 1, 0), (9, .ireturn, 1, 0), (10, .iconst 0, 1, 0), (11, .istore_n 3, 1, 0), (12, .iconst 0, 1, 0), (13, .istore 4, 2, 0), (15, .iload 4, 2, 0)],
  [(17, .bipush 10, 2, 0), (19, .if_icmp .ge 37, 3, 56), (22, .iload_n 2, 1, 0), (23, .iload 4, 2, 0), (25, .ishr, 1, 0), (26, .iconst 1, 1, 0), (27, .iand, 1, 0), (28, .iconst 1, 1, 0), (29, .if_icmp .ne 21, 3, 50)],
  [(32, .aload_n 0, 1, 0), (33, .iload_n 1, 1, 0), (34, .iload_n 2, 1, 0), (35, .iload 4, 2, 0), (37, .invokevirtual 144, 3, 0), (40, .ifCond .lt 10, 3, 50), (43, .iload_n 3, 1, 0), (44, .iconst 1, 1, 0), (45, .iload 4, 2, 0), (47, .ishl, 1, 0)],
  [(48, .ior, 1, 0), (49, .istore_n 3, 1, 0), (50, .iinc 4 1, 3, 0), (53, .goto (-38), 3, 15), (56, .iload_n 3, 1, 0), (57, .ireturn, 1, 0)]]
set_option maxRecDepth 100000 in
theorem tX7_rimOf_ok : pt_ok YX7_rimOf.2.1 tX7_rimOf = true := by decide +kernel
theorem nX7_rimOf : (plainFor yX7_rimOf && decide (yX7_rimOf.cls = pt_own YX7_rimOf.1)) = true := by decide +kernel
abbrev YX7_rim : pt_Y := (7, cX7_rim, 2, (some .int), ({ frames := 7, cells := 0, slots := 0, locals := 175 } : Room))
def tX7_rim : pt_B := [
  [(0, .aload_n 0, 1, 0), (1, .iconst 0, 1, 0), (2, .putfield 64, 3, 0), (5, .aload_n 0, 1, 0), (6, .iload_n 1, 1, 0), (7, .invokevirtual 141, 3, 0), (10, .ifCond .eq 27, 3, 37), (13, .aload_n 0, 1, 0), (14, .bipush 120, 2, 0)],
  [(16, .iload_n 1, 1, 0), (17, .imul, 1, 0), (18, .iconst 1, 1, 0), (19, .aload_n 0, 1, 0), (20, .getfield 13, 3, 0), (23, .iload_n 1, 1, 0), (24, .iaload, 1, 0), (25, .ishl, 1, 0), (26, .iconst 1, 1, 0), (27, .isub, 1, 0), (28, .invokevirtual 147, 3, 0), (31, .invokestatic 129, 3, 0)],
  [(34, .goto 4, 3, 38), (37, .iconst (-1), 1, 0), (38, .ireturn, 1, 0)]]
set_option maxRecDepth 100000 in
theorem tX7_rim_ok : pt_ok YX7_rim.2.1 tX7_rim = true := by decide +kernel
theorem nX7_rim : (plainFor yX7_rim && decide (yX7_rim.cls = pt_own YX7_rim.1)) = true := by decide +kernel
abbrev YX7_onRim : pt_Y := (7, cX7_onRim, 7, (some .int), ({ frames := 7, cells := 0, slots := 0, locals := 175 } : Room))
def tX7_onRim : pt_B := [
  [(0, .aload_n 0, 1, 0), (1, .iload_n 1, 1, 0), (2, .invokevirtual 141, 3, 0), (5, .istore_n 3, 1, 0), (6, .iload_n 3, 1, 0), (7, .ifCond .eq 16, 3, 23), (10, .iconst 1, 1, 0), (11, .aload_n 0, 1, 0), (12, .getfield 13, 3, 0), (15, .iload_n 1, 1, 0)],
  [(16, .iaload, 1, 0), (17, .ishl, 1, 0), (18, .iconst 1, 1, 0), (19, .isub, 1, 0), (20, .goto 4, 3, 24), (23, .iconst 0, 1, 0), (24, .istore 4, 2, 0), (26, .aload_n 0, 1, 0), (27, .iload_n 3, 1, 0), (28, .ifCond .eq 24, 3, 52), (31, .iload_n 2, 1, 0)],
  [(32, .ifCond .lt 20, 3, 52), (35, .iload_n 2, 1, 0), (36, .aload_n 0, 1, 0), (37, .bipush 120, 2, 0), (39, .iload_n 1, 1, 0), (40, .imul, 1, 0), (41, .iload 4, 2, 0), (43, .invokevirtual 147, 3, 0), (46, .invokestatic 129, 3, 0)],
  [(49, .if_icmp .lt 7, 3, 56), (52, .iconst 1, 1, 0), (53, .goto 4, 3, 57), (56, .iconst 0, 1, 0), (57, .invokevirtual 150, 3, 0), (60, .ifCond .eq 5, 3, 65), (63, .iconst 0, 1, 0)],
  [(64, .ireturn, 1, 0), (65, .iconst 0, 1, 0), (66, .istore 5, 2, 0), (68, .aload_n 0, 1, 0), (69, .bipush 120, 2, 0), (71, .iload_n 1, 1, 0), (72, .imul, 1, 0), (73, .iload 4, 2, 0), (75, .iload 5, 2, 0), (77, .invokevirtual 144, 3, 0)],
  [(80, .ifCond .ge 9, 3, 89), (83, .iinc 5 1, 3, 0), (86, .goto (-18), 3, 68), (89, .iconst 0, 1, 0), (90, .istore 6, 2, 0), (92, .iload 6, 2, 0), (94, .iload_n 2, 1, 0), (95, .if_icmp .ge 23, 3, 118)],
  [(98, .aload_n 0, 1, 0), (99, .bipush 120, 2, 0), (101, .iload_n 1, 1, 0), (102, .imul, 1, 0), (103, .iload 4, 2, 0), (105, .iload 5, 2, 0), (107, .invokevirtual 144, 3, 0), (110, .istore 5, 2, 0)],
  [(112, .iinc 6 1, 3, 0), (115, .goto (-23), 3, 92), (118, .iload 5, 2, 0), (120, .ireturn, 1, 0)]]
set_option maxRecDepth 100000 in
theorem tX7_onRim_ok : pt_ok YX7_onRim.2.1 tX7_onRim = true := by decide +kernel
theorem nX7_onRim : (plainFor yX7_onRim && decide (yX7_onRim.cls = pt_own YX7_onRim.1)) = true := by decide +kernel
abbrev YX7_layer : pt_Y := (7, cX7_layer, 5, (some .int), ({ frames := 7, cells := 0, slots := 0, locals := 175 } : Room))
def tX7_layer : pt_B := [
  [(0, .aload_n 0, 1, 0), (1, .iconst 0, 1, 0), (2, .putfield 64, 3, 0), (5, .aload_n 0, 1, 0), (6, .iload_n 1, 1, 0), (7, .invokevirtual 141, 3, 0), (10, .ifCond .eq 17, 3, 27), (13, .iload_n 2, 1, 0), (14, .ifCond .lt 13, 3, 27)],
  [(17, .iload_n 2, 1, 0), (18, .aload_n 0, 1, 0), (19, .getfield 13, 3, 0), (22, .iload_n 1, 1, 0), (23, .iaload, 1, 0), (24, .if_icmp .lt 5, 3, 29), (27, .iconst (-1), 1, 0), (28, .ireturn, 1, 0), (29, .iconst 1, 1, 0), (30, .aload_n 0, 1, 0), (31, .getfield 13, 3, 0)],
  [(34, .iload_n 1, 1, 0), (35, .iaload, 1, 0), (36, .ishl, 1, 0), (37, .iconst 1, 1, 0), (38, .isub, 1, 0), (39, .istore_n 3, 1, 0), (40, .iconst 0, 1, 0), (41, .istore 4, 2, 0), (43, .aload_n 0, 1, 0), (44, .bipush 120, 2, 0), (46, .iload_n 1, 1, 0), (47, .imul, 1, 0)],
  [(48, .iload_n 3, 1, 0), (49, .invokevirtual 147, 3, 0), (52, .iload_n 2, 1, 0), (53, .ishr, 1, 0), (54, .iconst 1, 1, 0), (55, .iand, 1, 0), (56, .ifCond .ne 23, 3, 79), (59, .iload_n 3, 1, 0), (60, .aload_n 0, 1, 0), (61, .bipush 120, 2, 0), (63, .iload_n 1, 1, 0)],
  [(64, .imul, 1, 0), (65, .iload_n 3, 1, 0), (66, .invokevirtual 147, 3, 0), (69, .iconst (-1), 1, 0), (70, .ixor, 1, 0), (71, .iand, 1, 0), (72, .istore_n 3, 1, 0), (73, .iinc 4 1, 3, 0), (76, .goto (-33), 3, 43), (79, .iload 4, 2, 0)],
  [(81, .ireturn, 1, 0)]]
set_option maxRecDepth 100000 in
theorem tX7_layer_ok : pt_ok YX7_layer.2.1 tX7_layer = true := by decide +kernel
theorem nX7_layer : (plainFor yX7_layer && decide (yX7_layer.cls = pt_own YX7_layer.1)) = true := by decide +kernel
abbrev YX7_threesOf : pt_Y := (7, cX7_threesOf, 1, (some .int), ({ frames := 0, cells := 0, slots := 0, locals := 0 } : Room))
def tX7_threesOf : pt_B := [
  [(0, .iload_n 0, 1, 0), (1, .iload_n 0, 1, 0), (2, .iconst 1, 1, 0), (3, .isub, 1, 0), (4, .imul, 1, 0), (5, .iload_n 0, 1, 0), (6, .iconst 2, 1, 0), (7, .isub, 1, 0), (8, .imul, 1, 0), (9, .bipush 6, 2, 0), (11, .idiv, 1, 0), (12, .ireturn, 1, 0)]]
set_option maxRecDepth 100000 in
theorem tX7_threesOf_ok : pt_ok YX7_threesOf.2.1 tX7_threesOf = true := by decide +kernel
theorem nX7_threesOf : (plainFor yX7_threesOf && decide (yX7_threesOf.cls = pt_own YX7_threesOf.1)) = true := by decide +kernel
abbrev YX7_around : pt_Y := (7, cX7_around, 7, none, ({ frames := 3, cells := 0, slots := 0, locals := 75 } : Room))
def tX7_around : pt_B := [
  [(0, .aload_n 0, 1, 0), (1, .getfield 31, 3, 0), (4, .iconst 0, 1, 0), (5, .iload_n 3, 1, 0), (6, .iastore, 1, 0), (7, .iconst 1, 1, 0), (8, .istore 4, 2, 0), (10, .iconst 0, 1, 0), (11, .istore 5, 2, 0), (13, .iload 5, 2, 0), (15, .iload_n 2, 1, 0)],
  [(16, .if_icmp .ge 82, 3, 98), (19, .iload 5, 2, 0), (21, .iload_n 3, 1, 0), (22, .if_icmp .ne 6, 3, 28), (25, .goto 67, 3, 92), (28, .iload 4, 2, 0), (30, .istore 6, 2, 0)],
  [(32, .iload 6, 2, 0), (34, .iconst 1, 1, 0), (35, .if_icmp .le 45, 3, 80), (38, .aload_n 0, 1, 0), (39, .iload_n 1, 1, 0), (40, .iload_n 3, 1, 0), (41, .aload_n 0, 1, 0), (42, .getfield 31, 3, 0), (45, .iload 6, 2, 0), (47, .iconst 1, 1, 0)],
  [(48, .isub, 1, 0), (49, .iaload, 1, 0), (50, .iload 5, 2, 0), (52, .invokevirtual 118, 3, 0), (55, .ifCond .ne 25, 3, 80), (58, .aload_n 0, 1, 0), (59, .getfield 31, 3, 0), (62, .iload 6, 2, 0)],
  [(64, .aload_n 0, 1, 0), (65, .getfield 31, 3, 0), (68, .iload 6, 2, 0), (70, .iconst 1, 1, 0), (71, .isub, 1, 0), (72, .iaload, 1, 0), (73, .iastore, 1, 0), (74, .iinc 6 (-1), 3, 0), (77, .goto (-45), 3, 32)],
  [(80, .aload_n 0, 1, 0), (81, .getfield 31, 3, 0), (84, .iload 6, 2, 0), (86, .iload 5, 2, 0), (88, .iastore, 1, 0), (89, .iinc 4 1, 3, 0), (92, .iinc 5 1, 3, 0), (95, .goto (-82), 3, 13)],
  [(98, .return_, 1, 0)]]
set_option maxRecDepth 100000 in
theorem tX7_around_ok : pt_ok YX7_around.2.1 tX7_around = true := by decide +kernel
theorem nX7_around : (plainFor yX7_around && decide (yX7_around.cls = pt_own YX7_around.1)) = true := by decide +kernel
abbrev YX7_rowOf : pt_Y := (7, cX7_rowOf, 8, none, ({ frames := 2, cells := 0, slots := 0, locals := 51 } : Room))
def tX7_rowOf : pt_B := [
  [(0, .iconst 0, 1, 0), (1, .istore 4, 2, 0), (3, .iconst 0, 1, 0), (4, .istore 5, 2, 0), (6, .iload 5, 2, 0), (8, .iload_n 2, 1, 0), (9, .if_icmp .ge 87, 3, 96), (12, .iload 5, 2, 0), (14, .iconst 1, 1, 0), (15, .iadd, 1, 0)],
  [(16, .istore 6, 2, 0), (18, .iload 6, 2, 0), (20, .iload_n 2, 1, 0), (21, .if_icmp .ge 69, 3, 90), (24, .iload 6, 2, 0), (26, .iconst 1, 1, 0), (27, .iadd, 1, 0), (28, .istore 7, 2, 0), (30, .iload 7, 2, 0)],
  [(32, .iload_n 2, 1, 0), (33, .if_icmp .ge 51, 3, 84), (36, .aload_n 3, 1, 0), (37, .iload 4, 2, 0), (39, .aload_n 0, 1, 0), (40, .iload_n 1, 1, 0), (41, .aload_n 0, 1, 0), (42, .getfield 31, 3, 0), (45, .iload 5, 2, 0), (47, .iaload, 1, 0)],
  [(48, .aload_n 0, 1, 0), (49, .getfield 31, 3, 0), (52, .iload 6, 2, 0), (54, .iaload, 1, 0), (55, .aload_n 0, 1, 0), (56, .getfield 31, 3, 0), (59, .iload 7, 2, 0), (61, .iaload, 1, 0), (62, .invokevirtual 81, 3, 0)],
  [(65, .iconst 1, 1, 0), (66, .if_icmp .ne 7, 3, 73), (69, .iconst 1, 1, 0), (70, .goto 4, 3, 74), (73, .iconst 2, 1, 0), (74, .iastore, 1, 0), (75, .iinc 4 1, 3, 0), (78, .iinc 7 1, 3, 0)],
  [(81, .goto (-51), 3, 30), (84, .iinc 6 1, 3, 0), (87, .goto (-69), 3, 18), (90, .iinc 5 1, 3, 0), (93, .goto (-87), 3, 6)],
  [(96, .return_, 1, 0)]]
set_option maxRecDepth 100000 in
theorem tX7_rowOf_ok : pt_ok YX7_rowOf.2.1 tX7_rowOf = true := by decide +kernel
theorem nX7_rowOf : (plainFor yX7_rowOf && decide (yX7_rowOf.cls = pt_own YX7_rowOf.1)) = true := by decide +kernel
abbrev YX7_compare : pt_Y := (7, cX7_compare, 4, (some .int), ({ frames := 0, cells := 0, slots := 0, locals := 0 } : Room))
def tX7_compare : pt_B := [
  [(0, .iconst 0, 1, 0), (1, .istore_n 3, 1, 0), (2, .iload_n 3, 1, 0), (3, .iload_n 2, 1, 0), (4, .if_icmp .ge 26, 3, 30), (7, .aload_n 0, 1, 0), (8, .iload_n 3, 1, 0), (9, .iaload, 1, 0), (10, .aload_n 1, 1, 0), (11, .iload_n 3, 1, 0), (12, .iaload, 1, 0), (13, .if_icmp .eq 11, 3, 24)],
  [(16, .aload_n 0, 1, 0), (17, .iload_n 3, 1, 0), (18, .iaload, 1, 0), (19, .aload_n 1, 1, 0), (20, .iload_n 3, 1, 0), (21, .iaload, 1, 0), (22, .isub, 1, 0), (23, .ireturn, 1, 0), (24, .iinc 3 1, 3, 0), (27, .goto (-25), 3, 2), (30, .iconst 0, 1, 0), (31, .ireturn, 1, 0)]]
set_option maxRecDepth 100000 in
theorem tX7_compare_ok : pt_ok YX7_compare.2.1 tX7_compare = true := by decide +kernel
theorem nX7_compare : (plainFor yX7_compare && decide (yX7_compare.cls = pt_own YX7_compare.1)) = true := by decide +kernel
abbrev YX7_least : pt_Y := (7, cX7_least, 8, none, ({ frames := 4, cells := 0, slots := 0, locals := 101 } : Room))
def tX7_least : pt_B := [
  [(0, .iconst 1, 1, 0), (1, .iload_n 2, 1, 0), (2, .ishl, 1, 0), (3, .iconst 1, 1, 0), (4, .isub, 1, 0), (5, .istore 4, 2, 0), (7, .iconst 0, 1, 0), (8, .istore 5, 2, 0), (10, .iconst 0, 1, 0), (11, .istore 6, 2, 0), (13, .iload 6, 2, 0), (15, .iload_n 2, 1, 0)],
  [(16, .if_icmp .ge 97, 3, 113), (19, .aload_n 0, 1, 0), (20, .iload_n 1, 1, 0), (21, .iload 4, 2, 0), (23, .iload 6, 2, 0), (25, .invokevirtual 144, 3, 0), (28, .ifCond .ge 6, 3, 34), (31, .goto 76, 3, 107)],
  [(34, .aload_n 0, 1, 0), (35, .iload_n 1, 1, 0), (36, .iload_n 2, 1, 0), (37, .iload 6, 2, 0), (39, .invokevirtual 154, 3, 0), (42, .aload_n 0, 1, 0), (43, .iload_n 1, 1, 0), (44, .iload_n 2, 1, 0), (45, .aload_n 0, 1, 0), (46, .getfield 37, 3, 0)],
  [(49, .invokevirtual 157, 3, 0), (52, .iload 5, 2, 0), (54, .ifCond .eq 21, 3, 75), (57, .aload_n 0, 1, 0), (58, .getfield 37, 3, 0), (61, .aload_n 3, 1, 0), (62, .iload_n 2, 1, 0), (63, .invokestatic 161, 3, 0)],
  [(66, .invokestatic 164, 3, 0), (69, .ifCond .lt 6, 3, 75), (72, .goto 35, 3, 107), (75, .iconst 1, 1, 0), (76, .istore 5, 2, 0), (78, .iconst 0, 1, 0), (79, .istore 7, 2, 0)],
  [(81, .iload 7, 2, 0), (83, .iload_n 2, 1, 0), (84, .invokestatic 161, 3, 0), (87, .if_icmp .ge 20, 3, 107), (90, .aload_n 3, 1, 0), (91, .iload 7, 2, 0), (93, .aload_n 0, 1, 0), (94, .getfield 37, 3, 0)],
  [(97, .iload 7, 2, 0), (99, .iaload, 1, 0), (100, .iastore, 1, 0), (101, .iinc 7 1, 3, 0), (104, .goto (-23), 3, 81), (107, .iinc 6 1, 3, 0), (110, .goto (-97), 3, 13)],
  [(113, .return_, 1, 0)]]
set_option maxRecDepth 100000 in
theorem tX7_least_ok : pt_ok YX7_least.2.1 tX7_least = true := by decide +kernel
theorem nX7_least : (plainFor yX7_least && decide (yX7_least.cls = pt_own YX7_least.1)) = true := by decide +kernel
abbrev YX7_codeOf : pt_Y := (7, cX7_codeOf, 4, none, ({ frames := 5, cells := 0, slots := 0, locals := 128 } : Room))
def tX7_codeOf : pt_B := [
  [(0, .aload_n 0, 1, 0), (1, .iload_n 1, 1, 0), (2, .iload_n 2, 1, 0), (3, .aload_n 0, 1, 0), (4, .getfield 40, 3, 0), (7, .invokevirtual 168, 3, 0), (10, .aload_n 0, 1, 0), (11, .iload_n 1, 1, 0), (12, .invokevirtual 111, 3, 0), (15, .aload_n 0, 1, 0)],
  [(16, .iload_n 1, 1, 0), (17, .iload_n 2, 1, 0), (18, .aload_n 0, 1, 0), (19, .getfield 43, 3, 0), (22, .invokevirtual 168, 3, 0), (25, .aload_n 0, 1, 0), (26, .iload_n 1, 1, 0), (27, .invokevirtual 111, 3, 0), (30, .aload_n 0, 1, 0), (31, .getfield 43, 3, 0)],
  [(34, .aload_n 0, 1, 0), (35, .getfield 40, 3, 0), (38, .iload_n 2, 1, 0), (39, .invokestatic 161, 3, 0), (42, .invokestatic 164, 3, 0), (45, .ifCond .ge 31, 3, 76)],
  [(48, .iconst 0, 1, 0), (49, .istore_n 3, 1, 0), (50, .iload_n 3, 1, 0), (51, .iload_n 2, 1, 0), (52, .invokestatic 161, 3, 0), (55, .if_icmp .ge 21, 3, 76), (58, .aload_n 0, 1, 0), (59, .getfield 40, 3, 0), (62, .iload_n 3, 1, 0), (63, .aload_n 0, 1, 0)],
  [(64, .getfield 43, 3, 0), (67, .iload_n 3, 1, 0), (68, .iaload, 1, 0), (69, .iastore, 1, 0), (70, .iinc 3 1, 3, 0), (73, .goto (-23), 3, 50), (76, .return_, 1, 0)]]
set_option maxRecDepth 100000 in
theorem tX7_codeOf_ok : pt_ok YX7_codeOf.2.1 tX7_codeOf = true := by decide +kernel
theorem nX7_codeOf : (plainFor yX7_codeOf && decide (yX7_codeOf.cls = pt_own YX7_codeOf.1)) = true := by decide +kernel
abbrev YX7_code : pt_Y := (7, cX7_code, 3, (some .int), ({ frames := 7, cells := 0, slots := 0, locals := 175 } : Room))
def tX7_code : pt_B := [
  [(0, .aload_n 0, 1, 0), (1, .iconst 0, 1, 0), (2, .putfield 64, 3, 0), (5, .aload_n 0, 1, 0), (6, .iload_n 1, 1, 0), (7, .invokevirtual 141, 3, 0), (10, .ifCond .ne 5, 3, 15), (13, .iconst (-1), 1, 0), (14, .ireturn, 1, 0), (15, .aload_n 0, 1, 0)],
  [(16, .bipush 120, 2, 0), (18, .iload_n 1, 1, 0), (19, .imul, 1, 0), (20, .aload_n 0, 1, 0), (21, .getfield 13, 3, 0), (24, .iload_n 1, 1, 0), (25, .iaload, 1, 0), (26, .invokevirtual 171, 3, 0), (29, .aload_n 0, 1, 0), (30, .aload_n 0, 1, 0), (31, .getfield 13, 3, 0)],
  [(34, .iload_n 1, 1, 0), (35, .iaload, 1, 0), (36, .invokestatic 161, 3, 0), (39, .putfield 174, 3, 0), (42, .iconst 0, 1, 0), (43, .istore_n 2, 1, 0), (44, .iload_n 2, 1, 0), (45, .aload_n 0, 1, 0), (46, .getfield 174, 3, 0)],
  [(49, .if_icmp .ge 22, 3, 71), (52, .aload_n 0, 1, 0), (53, .getfield 49, 3, 0), (56, .iload_n 2, 1, 0), (57, .aload_n 0, 1, 0), (58, .getfield 40, 3, 0), (61, .iload_n 2, 1, 0), (62, .iaload, 1, 0), (63, .i2b, 1, 0)],
  [(64, .bastore, 1, 0), (65, .iinc 2 1, 3, 0), (68, .goto (-24), 3, 44), (71, .aload_n 0, 1, 0), (72, .getfield 174, 3, 0), (75, .ireturn, 1, 0)]]
set_option maxRecDepth 100000 in
theorem tX7_code_ok : pt_ok YX7_code.2.1 tX7_code = true := by decide +kernel
theorem nX7_code : (plainFor yX7_code && decide (yX7_code.cls = pt_own YX7_code.1)) = true := by decide +kernel
abbrev YX7_octet : pt_Y := (7, cX7_octet, 2, (some .int), ({ frames := 1, cells := 0, slots := 0, locals := 21 } : Room))
def tX7_octet : pt_B := [
  [(0, .aload_n 0, 1, 0), (1, .iload_n 1, 1, 0), (2, .ifCond .lt 11, 3, 13), (5, .iload_n 1, 1, 0), (6, .aload_n 0, 1, 0), (7, .getfield 174, 3, 0), (10, .if_icmp .lt 7, 3, 17), (13, .iconst 1, 1, 0), (14, .goto 4, 3, 18)],
  [(17, .iconst 0, 1, 0), (18, .invokevirtual 150, 3, 0), (21, .ifCond .eq 7, 3, 28), (24, .iconst 0, 1, 0), (25, .goto 9, 3, 34), (28, .aload_n 0, 1, 0), (29, .getfield 49, 3, 0)],
  [(32, .iload_n 1, 1, 0), (33, .baload, 1, 0), (34, .ireturn, 1, 0)]]
set_option maxRecDepth 100000 in
theorem tX7_octet_ok : pt_ok YX7_octet.2.1 tX7_octet = true := by decide +kernel
theorem nX7_octet : (plainFor yX7_octet && decide (yX7_octet.cls = pt_own YX7_octet.1)) = true := by decide +kernel
abbrev YX7_fill : pt_Y := (7, cX7_fill, 8, none, ({ frames := 2, cells := 0, slots := 0, locals := 47 } : Room))
def tX7_fill : pt_B := [
  [(0, .iconst 0, 1, 0), (1, .istore 4, 2, 0), (3, .iconst 0, 1, 0), (4, .istore 5, 2, 0), (6, .iload 5, 2, 0), (8, .iload_n 2, 1, 0), (9, .if_icmp .ge 75, 3, 84), (12, .iload 5, 2, 0), (14, .iconst 1, 1, 0), (15, .iadd, 1, 0)],
  [(16, .istore 6, 2, 0), (18, .iload 6, 2, 0), (20, .iload_n 2, 1, 0), (21, .if_icmp .ge 57, 3, 78), (24, .iload 6, 2, 0), (26, .iconst 1, 1, 0), (27, .iadd, 1, 0), (28, .istore 7, 2, 0), (30, .iload 7, 2, 0)],
  [(32, .iload_n 2, 1, 0), (33, .if_icmp .ge 39, 3, 72), (36, .aload_n 0, 1, 0), (37, .bipush 120, 2, 0), (39, .iload_n 1, 1, 0), (40, .imul, 1, 0), (41, .iload 5, 2, 0), (43, .iload 6, 2, 0), (45, .iload 7, 2, 0), (47, .aload_n 3, 1, 0)],
  [(48, .iload 4, 2, 0), (50, .iaload, 1, 0), (51, .iconst 1, 1, 0), (52, .if_icmp .ne 7, 3, 59), (55, .iconst 1, 1, 0), (56, .goto 4, 3, 60), (59, .iconst (-1), 1, 0), (60, .invokevirtual 99, 3, 0), (63, .iinc 4 1, 3, 0)],
  [(66, .iinc 7 1, 3, 0), (69, .goto (-39), 3, 30), (72, .iinc 6 1, 3, 0), (75, .goto (-57), 3, 18), (78, .iinc 5 1, 3, 0)],
  [(81, .goto (-75), 3, 6), (84, .aload_n 0, 1, 0), (85, .getfield 13, 3, 0), (88, .iload_n 1, 1, 0), (89, .iload_n 2, 1, 0), (90, .iastore, 1, 0), (91, .return_, 1, 0)]]
set_option maxRecDepth 100000 in
theorem tX7_fill_ok : pt_ok YX7_fill.2.1 tX7_fill = true := by decide +kernel
theorem nX7_fill : (plainFor yX7_fill && decide (yX7_fill.cls = pt_own YX7_fill.1)) = true := by decide +kernel
abbrev YX7_named : pt_Y := (7, cX7_named, 3, (some .boolean), ({ frames := 7, cells := 0, slots := 0, locals := 175 } : Room))
def tX7_named : pt_B := [
  [(0, .aload_n 0, 1, 0), (1, .iconst 0, 1, 0), (2, .putfield 64, 3, 0), (5, .iload_n 1, 1, 0), (6, .invokestatic 85, 3, 0), (9, .ifCond .eq 11, 3, 20), (12, .aload_n 0, 1, 0), (13, .iload_n 2, 1, 0), (14, .invokevirtual 141, 3, 0)],
  [(17, .ifCond .ne 5, 3, 22), (20, .iconst 0, 1, 0), (21, .ireturn, 1, 0), (22, .aload_n 0, 1, 0), (23, .bipush 120, 2, 0), (25, .iload_n 2, 1, 0), (26, .imul, 1, 0), (27, .aload_n 0, 1, 0), (28, .getfield 13, 3, 0), (31, .iload_n 2, 1, 0)],
  [(32, .iaload, 1, 0), (33, .invokevirtual 171, 3, 0), (36, .aload_n 0, 1, 0), (37, .iload_n 1, 1, 0), (38, .aload_n 0, 1, 0), (39, .getfield 13, 3, 0), (42, .iload_n 2, 1, 0), (43, .iaload, 1, 0), (44, .aload_n 0, 1, 0), (45, .getfield 40, 3, 0)],
  [(48, .invokevirtual 177, 3, 0), (51, .iconst 1, 1, 0), (52, .ireturn, 1, 0)]]
set_option maxRecDepth 100000 in
theorem tX7_named_ok : pt_ok YX7_named.2.1 tX7_named = true := by decide +kernel
theorem nX7_named : (plainFor yX7_named && decide (yX7_named.cls = pt_own YX7_named.1)) = true := by decide +kernel
abbrev YX7_like : pt_Y := (7, cX7_like, 5, (some .int), ({ frames := 7, cells := 0, slots := 0, locals := 175 } : Room))
def tX7_like : pt_B := [
  [(0, .aload_n 0, 1, 0), (1, .iconst 0, 1, 0), (2, .putfield 64, 3, 0), (5, .aload_n 0, 1, 0), (6, .iload_n 1, 1, 0), (7, .invokevirtual 141, 3, 0), (10, .ifCond .eq 11, 3, 21), (13, .aload_n 0, 1, 0), (14, .iload_n 2, 1, 0), (15, .invokevirtual 141, 3, 0)],
  [(18, .ifCond .ne 5, 3, 23), (21, .iconst (-1), 1, 0), (22, .ireturn, 1, 0), (23, .aload_n 0, 1, 0), (24, .getfield 13, 3, 0), (27, .iload_n 1, 1, 0), (28, .iaload, 1, 0), (29, .istore_n 3, 1, 0), (30, .iload_n 3, 1, 0), (31, .aload_n 0, 1, 0)],
  [(32, .getfield 13, 3, 0), (35, .iload_n 2, 1, 0), (36, .iaload, 1, 0), (37, .if_icmp .eq 5, 3, 42), (40, .iconst 0, 1, 0), (41, .ireturn, 1, 0), (42, .aload_n 0, 1, 0), (43, .bipush 120, 2, 0), (45, .iload_n 1, 1, 0), (46, .imul, 1, 0), (47, .iload_n 3, 1, 0)],
  [(48, .aload_n 0, 1, 0), (49, .getfield 46, 3, 0), (52, .invokevirtual 168, 3, 0), (55, .aload_n 0, 1, 0), (56, .bipush 120, 2, 0), (58, .iload_n 2, 1, 0), (59, .imul, 1, 0), (60, .iload_n 3, 1, 0), (61, .aload_n 0, 1, 0), (62, .getfield 40, 3, 0)],
  [(65, .invokevirtual 168, 3, 0), (68, .aload_n 0, 1, 0), (69, .getfield 46, 3, 0), (72, .aload_n 0, 1, 0), (73, .getfield 40, 3, 0), (76, .iload_n 3, 1, 0), (77, .invokestatic 161, 3, 0)],
  [(80, .invokestatic 164, 3, 0), (83, .ifCond .ne 7, 3, 90), (86, .iconst 1, 1, 0), (87, .goto 4, 3, 91), (90, .iconst 0, 1, 0), (91, .istore 4, 2, 0), (93, .aload_n 0, 1, 0), (94, .bipush 120, 2, 0)],
  [(96, .iload_n 2, 1, 0), (97, .imul, 1, 0), (98, .invokevirtual 111, 3, 0), (101, .aload_n 0, 1, 0), (102, .bipush 120, 2, 0), (104, .iload_n 2, 1, 0), (105, .imul, 1, 0), (106, .iload_n 3, 1, 0), (107, .aload_n 0, 1, 0), (108, .getfield 40, 3, 0), (111, .invokevirtual 168, 3, 0)],
  [(114, .aload_n 0, 1, 0), (115, .bipush 120, 2, 0), (117, .iload_n 2, 1, 0), (118, .imul, 1, 0), (119, .invokevirtual 111, 3, 0), (122, .aload_n 0, 1, 0), (123, .getfield 46, 3, 0), (126, .aload_n 0, 1, 0), (127, .getfield 40, 3, 0)],
  [(130, .iload_n 3, 1, 0), (131, .invokestatic 161, 3, 0), (134, .invokestatic 164, 3, 0), (137, .ifCond .ne 10, 3, 147), (140, .iload 4, 2, 0), (142, .iconst 2, 1, 0), (143, .iadd, 1, 0)],
  [(144, .goto 5, 3, 149), (147, .iload 4, 2, 0), (149, .ireturn, 1, 0)]]
set_option maxRecDepth 100000 in
theorem tX7_like_ok : pt_ok YX7_like.2.1 tX7_like = true := by decide +kernel
theorem nX7_like : (plainFor yX7_like && decide (yX7_like.cls = pt_own YX7_like.1)) = true := by decide +kernel
abbrev YX7_swept : pt_Y := (7, cX7_swept, 6, (some .boolean), ({ frames := 2, cells := 0, slots := 0, locals := 47 } : Room))
def tX7_swept : pt_B := [
  [(0, .aload_n 0, 1, 0), (1, .iconst 0, 1, 0), (2, .putfield 64, 3, 0), (5, .aload_n 0, 1, 0), (6, .invokevirtual 92, 3, 0), (9, .iload_n 1, 1, 0), (10, .invokestatic 85, 3, 0), (13, .ifCond .eq 28, 3, 41)],
  [(16, .iload_n 2, 1, 0), (17, .iconst 3, 1, 0), (18, .if_icmp .lt 23, 3, 41), (21, .iload_n 2, 1, 0), (22, .bipush 10, 2, 0), (24, .if_icmp .gt 17, 3, 41), (27, .aload_n 0, 1, 0), (28, .getfield 74, 3, 0), (31, .iload_n 2, 1, 0)],
  [(32, .iload_n 2, 1, 0), (33, .iconst 1, 1, 0), (34, .isub, 1, 0), (35, .imul, 1, 0), (36, .iconst 2, 1, 0), (37, .idiv, 1, 0), (38, .if_icmp .eq 5, 3, 43), (41, .iconst 0, 1, 0), (42, .ireturn, 1, 0), (43, .iconst 0, 1, 0), (44, .istore_n 3, 1, 0), (45, .iload_n 3, 1, 0), (46, .iload_n 2, 1, 0), (47, .if_icmp .ge 16, 3, 63)],
  [(50, .aload_n 0, 1, 0), (51, .getfield 52, 3, 0), (54, .iload_n 3, 1, 0), (55, .iload_n 3, 1, 0), (56, .iastore, 1, 0), (57, .iinc 3 1, 3, 0), (60, .goto (-15), 3, 45), (63, .iconst 0, 1, 0)],
  [(64, .istore_n 3, 1, 0), (65, .iload_n 3, 1, 0), (66, .aload_n 0, 1, 0), (67, .getfield 74, 3, 0), (70, .if_icmp .ge 58, 3, 128), (73, .aload_n 0, 1, 0), (74, .getfield 7, 3, 0), (77, .iload_n 3, 1, 0), (78, .baload, 1, 0), (79, .istore 4, 2, 0)],
  [(81, .iload 4, 2, 0), (83, .ifCond .lt 30, 3, 113), (86, .iload 4, 2, 0), (88, .iload_n 2, 1, 0), (89, .iconst 2, 1, 0), (90, .isub, 1, 0), (91, .if_icmp .gt 22, 3, 113), (94, .aload_n 0, 1, 0), (95, .getfield 52, 3, 0)],
  [(98, .iload 4, 2, 0), (100, .iaload, 1, 0), (101, .aload_n 0, 1, 0), (102, .getfield 52, 3, 0), (105, .iload 4, 2, 0), (107, .iconst 1, 1, 0), (108, .iadd, 1, 0), (109, .iaload, 1, 0), (110, .if_icmp .le 5, 3, 115)],
  [(113, .iconst 0, 1, 0), (114, .ireturn, 1, 0), (115, .aload_n 0, 1, 0), (116, .iload 4, 2, 0), (118, .iload_n 3, 1, 0), (119, .invokevirtual 180, 3, 0), (122, .iinc 3 1, 3, 0), (125, .goto (-60), 3, 65)],
  [(128, .iconst 0, 1, 0), (129, .istore_n 3, 1, 0), (130, .iload_n 3, 1, 0), (131, .iload_n 2, 1, 0), (132, .if_icmp .ge 90, 3, 222), (135, .iload_n 3, 1, 0), (136, .iconst 1, 1, 0), (137, .iadd, 1, 0), (138, .istore 4, 2, 0), (140, .iload 4, 2, 0), (142, .iload_n 2, 1, 0), (143, .if_icmp .ge 73, 3, 216)],
  [(146, .iload 4, 2, 0), (148, .iconst 1, 1, 0), (149, .iadd, 1, 0), (150, .istore 5, 2, 0), (152, .iload 5, 2, 0), (154, .iload_n 2, 1, 0), (155, .if_icmp .ge 55, 3, 210), (158, .aload_n 0, 1, 0), (159, .bipush 120, 2, 0)],
  [(161, .iload_n 1, 1, 0), (162, .imul, 1, 0), (163, .iload_n 3, 1, 0), (164, .iload 4, 2, 0), (166, .iload 5, 2, 0), (168, .aload_n 0, 1, 0), (169, .getfield 55, 3, 0), (172, .bipush 10, 2, 0), (174, .iload_n 3, 1, 0), (175, .imul, 1, 0)],
  [(176, .iload 4, 2, 0), (178, .iadd, 1, 0), (179, .iaload, 1, 0), (180, .aload_n 0, 1, 0), (181, .getfield 55, 3, 0), (184, .bipush 10, 2, 0), (186, .iload 4, 2, 0), (188, .imul, 1, 0), (189, .iload 5, 2, 0), (191, .iadd, 1, 0)],
  [(192, .iaload, 1, 0), (193, .if_icmp .ge 7, 3, 200), (196, .iconst 1, 1, 0), (197, .goto 4, 3, 201), (200, .iconst (-1), 1, 0), (201, .invokevirtual 99, 3, 0), (204, .iinc 5 1, 3, 0), (207, .goto (-55), 3, 152)],
  [(210, .iinc 4 1, 3, 0), (213, .goto (-73), 3, 140), (216, .iinc 3 1, 3, 0), (219, .goto (-89), 3, 130), (222, .aload_n 0, 1, 0), (223, .getfield 13, 3, 0)],
  [(226, .iload_n 1, 1, 0), (227, .iload_n 2, 1, 0), (228, .iastore, 1, 0), (229, .iconst 1, 1, 0), (230, .ireturn, 1, 0)]]
set_option maxRecDepth 100000 in
theorem tX7_swept_ok : pt_ok YX7_swept.2.1 tX7_swept = true := by decide +kernel
theorem nX7_swept : (plainFor yX7_swept && decide (yX7_swept.cls = pt_own YX7_swept.1)) = true := by decide +kernel
abbrev YX7_swap : pt_Y := (7, cX7_swap, 4, none, ({ frames := 0, cells := 0, slots := 0, locals := 0 } : Room))
def tX7_swap : pt_B := [
  [(0, .aload_n 0, 1, 0), (1, .getfield 52, 3, 0), (4, .iload_n 1, 1, 0), (5, .iaload, 1, 0), (6, .istore_n 3, 1, 0), (7, .aload_n 0, 1, 0), (8, .getfield 52, 3, 0), (11, .iload_n 1, 1, 0), (12, .aload_n 0, 1, 0), (13, .getfield 52, 3, 0)],
  [(16, .iload_n 1, 1, 0), (17, .iconst 1, 1, 0), (18, .iadd, 1, 0), (19, .iaload, 1, 0), (20, .iastore, 1, 0), (21, .aload_n 0, 1, 0), (22, .getfield 52, 3, 0), (25, .iload_n 1, 1, 0), (26, .iconst 1, 1, 0), (27, .iadd, 1, 0), (28, .iload_n 3, 1, 0), (29, .iastore, 1, 0), (30, .aload_n 0, 1, 0), (31, .getfield 55, 3, 0)],
  [(34, .bipush 10, 2, 0), (36, .iload_n 3, 1, 0), (37, .imul, 1, 0), (38, .aload_n 0, 1, 0), (39, .getfield 52, 3, 0), (42, .iload_n 1, 1, 0), (43, .iaload, 1, 0), (44, .iadd, 1, 0), (45, .iload_n 2, 1, 0), (46, .iastore, 1, 0), (47, .return_, 1, 0)]]
set_option maxRecDepth 100000 in
theorem tX7_swap_ok : pt_ok YX7_swap.2.1 tX7_swap = true := by decide +kernel
theorem nX7_swap : (plainFor yX7_swap && decide (yX7_swap.cls = pt_own YX7_swap.1)) = true := by decide +kernel
abbrev YX7_wasSwapped : pt_Y := (7, cX7_wasSwapped, 3, (some .boolean), ({ frames := 0, cells := 0, slots := 0, locals := 0 } : Room))
def tX7_wasSwapped : pt_B := [
  [(0, .aload_n 0, 1, 0), (1, .getfield 55, 3, 0), (4, .bipush 10, 2, 0), (6, .iload_n 1, 1, 0), (7, .imul, 1, 0), (8, .iload_n 2, 1, 0), (9, .iadd, 1, 0), (10, .iaload, 1, 0), (11, .ifCond .lt 7, 3, 18), (14, .iconst 1, 1, 0), (15, .goto 4, 3, 19)],
  [(18, .iconst 0, 1, 0), (19, .ireturn, 1, 0)]]
set_option maxRecDepth 100000 in
theorem tX7_wasSwapped_ok : pt_ok YX7_wasSwapped.2.1 tX7_wasSwapped = true := by decide +kernel
theorem nX7_wasSwapped : (plainFor yX7_wasSwapped && decide (yX7_wasSwapped.cls = pt_own YX7_wasSwapped.1)) = true := by decide +kernel
abbrev YX7_isNext : pt_Y := (7, cX7_isNext, 15, (some .boolean), ({ frames := 3, cells := 0, slots := 0, locals := 75 } : Room))
def tX7_isNext : pt_B := [
  [(0, .iload 4, 2, 0), (2, .iload_n 2, 1, 0), (3, .if_icmp .ge 8, 3, 11), (6, .iload 4, 2, 0), (8, .goto 4, 3, 12), (11, .iload_n 2, 1, 0), (12, .istore 5, 2, 0), (14, .iload 4, 2, 0)],
  [(16, .iload_n 3, 1, 0), (17, .if_icmp .le 8, 3, 25), (20, .iload 4, 2, 0), (22, .goto 4, 3, 26), (25, .iload_n 3, 1, 0), (26, .istore 6, 2, 0), (28, .iload_n 2, 1, 0), (29, .iload_n 3, 1, 0), (30, .iadd, 1, 0), (31, .iload 4, 2, 0)],
  [(33, .iadd, 1, 0), (34, .iload 5, 2, 0), (36, .isub, 1, 0), (37, .iload 6, 2, 0), (39, .isub, 1, 0), (40, .istore 7, 2, 0), (42, .aload_n 0, 1, 0), (43, .iload 5, 2, 0), (45, .iload 7, 2, 0), (47, .invokevirtual 183, 3, 0)],
  [(50, .istore 8, 2, 0), (52, .aload_n 0, 1, 0), (53, .iload 5, 2, 0), (55, .iload 6, 2, 0), (57, .invokevirtual 183, 3, 0), (60, .istore 9, 2, 0), (62, .aload_n 0, 1, 0), (63, .iload 7, 2, 0)],
  [(65, .iload 6, 2, 0), (67, .invokevirtual 183, 3, 0), (70, .istore 10, 2, 0), (72, .aload_n 0, 1, 0), (73, .iload_n 1, 1, 0), (74, .iload 5, 2, 0), (76, .iload 7, 2, 0), (78, .iload 6, 2, 0)],
  [(80, .invokevirtual 118, 3, 0), (83, .istore 11, 2, 0), (85, .iload_n 2, 1, 0), (86, .iload 5, 2, 0), (88, .if_icmp .ne 48, 3, 136), (91, .iload_n 3, 1, 0), (92, .iload 6, 2, 0), (94, .if_icmp .ne 42, 3, 136)],
  [(97, .iload 11, 2, 0), (99, .ifCond .eq 21, 3, 120), (102, .iload 8, 2, 0), (104, .ifCond .eq 12, 3, 116), (107, .iload 10, 2, 0), (109, .ifCond .ne 7, 3, 116)],
  [(112, .iconst 1, 1, 0), (113, .goto 22, 3, 135), (116, .iconst 0, 1, 0), (117, .goto 18, 3, 135), (120, .iload 10, 2, 0), (122, .ifCond .eq 12, 3, 134), (125, .iload 8, 2, 0), (127, .ifCond .ne 7, 3, 134)],
  [(130, .iconst 1, 1, 0), (131, .goto 4, 3, 135), (134, .iconst 0, 1, 0), (135, .ireturn, 1, 0), (136, .iload_n 2, 1, 0), (137, .iload 5, 2, 0), (139, .if_icmp .ne 7, 3, 146), (142, .iconst 1, 1, 0), (143, .goto 4, 3, 147)],
  [(146, .iconst 0, 1, 0), (147, .istore 12, 2, 0), (149, .iload 12, 2, 0), (151, .iload 11, 2, 0), (153, .if_icmp .ne 7, 3, 160), (156, .iconst 1, 1, 0), (157, .goto 4, 3, 161)],
  [(160, .iconst 0, 1, 0), (161, .istore 13, 2, 0), (163, .iload 12, 2, 0), (165, .ifCond .eq 8, 3, 173), (168, .iload 10, 2, 0), (170, .goto 5, 3, 175), (173, .iload 8, 2, 0), (175, .istore 14, 2, 0)],
  [(177, .iload 13, 2, 0), (179, .ifCond .eq 21, 3, 200), (182, .iload 9, 2, 0), (184, .ifCond .ne 12, 3, 196), (187, .iload 14, 2, 0), (189, .ifCond .ne 7, 3, 196)],
  [(192, .iconst 1, 1, 0), (193, .goto 22, 3, 215), (196, .iconst 0, 1, 0), (197, .goto 18, 3, 215), (200, .iload 9, 2, 0), (202, .ifCond .eq 12, 3, 214), (205, .iload 14, 2, 0), (207, .ifCond .eq 7, 3, 214)],
  [(210, .iconst 1, 1, 0), (211, .goto 4, 3, 215), (214, .iconst 0, 1, 0), (215, .ireturn, 1, 0)]]
set_option maxRecDepth 100000 in
theorem tX7_isNext_ok : pt_ok YX7_isNext.2.1 tX7_isNext = true := by decide +kernel
theorem nX7_isNext : (plainFor yX7_isNext && decide (yX7_isNext.cls = pt_own YX7_isNext.1)) = true := by decide +kernel
abbrev YX7_sweep : pt_Y := (7, cX7_sweep, 6, (some .int), ({ frames := 5, cells := 0, slots := 0, locals := 136 } : Room))
def tX7_sweep : pt_B := [
  [(0, .aload_n 0, 1, 0), (1, .iconst 0, 1, 0), (2, .putfield 64, 3, 0), (5, .aload_n 0, 1, 0), (6, .iload_n 1, 1, 0), (7, .invokevirtual 89, 3, 0), (10, .ifCond .ne 5, 3, 15), (13, .iconst (-1), 1, 0), (14, .ireturn, 1, 0), (15, .aload_n 0, 1, 0)],
  [(16, .getfield 13, 3, 0), (19, .iload_n 1, 1, 0), (20, .iaload, 1, 0), (21, .istore_n 2, 1, 0), (22, .iconst 0, 1, 0), (23, .istore_n 3, 1, 0), (24, .iload_n 3, 1, 0), (25, .iload_n 2, 1, 0), (26, .if_icmp .ge 16, 3, 42), (29, .aload_n 0, 1, 0), (30, .getfield 52, 3, 0)],
  [(33, .iload_n 3, 1, 0), (34, .iload_n 3, 1, 0), (35, .iastore, 1, 0), (36, .iinc 3 1, 3, 0), (39, .goto (-15), 3, 24), (42, .iconst 0, 1, 0), (43, .istore_n 3, 1, 0), (44, .iload_n 3, 1, 0), (45, .bipush 100, 2, 0), (47, .if_icmp .ge 16, 3, 63)],
  [(50, .aload_n 0, 1, 0), (51, .getfield 55, 3, 0), (54, .iload_n 3, 1, 0), (55, .iconst (-1), 1, 0), (56, .iastore, 1, 0), (57, .iinc 3 1, 3, 0), (60, .goto (-16), 3, 44), (63, .iload_n 2, 1, 0)],
  [(64, .iload_n 2, 1, 0), (65, .iconst 1, 1, 0), (66, .isub, 1, 0), (67, .imul, 1, 0), (68, .iconst 2, 1, 0), (69, .idiv, 1, 0), (70, .istore_n 3, 1, 0), (71, .iconst 0, 1, 0), (72, .istore 4, 2, 0), (74, .iload 4, 2, 0), (76, .iload_n 3, 1, 0), (77, .if_icmp .ge 67, 3, 144)],
  [(80, .iconst 0, 1, 0), (81, .istore 5, 2, 0), (83, .iload 5, 2, 0), (85, .iload_n 2, 1, 0), (86, .iconst 1, 1, 0), (87, .isub, 1, 0), (88, .if_icmp .ge 23, 3, 111), (91, .aload_n 0, 1, 0), (92, .bipush 120, 2, 0), (94, .iload_n 1, 1, 0), (95, .imul, 1, 0)],
  [(96, .iload_n 2, 1, 0), (97, .iload 5, 2, 0), (99, .invokevirtual 187, 3, 0), (102, .ifCond .ne 9, 3, 111), (105, .iinc 5 1, 3, 0), (108, .goto (-25), 3, 83), (111, .iload 5, 2, 0)],
  [(113, .iload_n 2, 1, 0), (114, .iconst 1, 1, 0), (115, .isub, 1, 0), (116, .if_icmp .ne 5, 3, 121), (119, .iconst (-1), 1, 0), (120, .ireturn, 1, 0), (121, .aload_n 0, 1, 0), (122, .getfield 37, 3, 0), (125, .iload 4, 2, 0), (127, .iload 5, 2, 0)],
  [(129, .iastore, 1, 0), (130, .aload_n 0, 1, 0), (131, .iload 5, 2, 0), (133, .iload 4, 2, 0), (135, .invokevirtual 180, 3, 0), (138, .iinc 4 1, 3, 0), (141, .goto (-67), 3, 74)],
  [(144, .iconst 0, 1, 0), (145, .istore 4, 2, 0), (147, .iload 4, 2, 0), (149, .iload_n 3, 1, 0), (150, .if_icmp .ge 24, 3, 174), (153, .aload_n 0, 1, 0), (154, .getfield 49, 3, 0), (157, .iload 4, 2, 0), (159, .aload_n 0, 1, 0)],
  [(160, .getfield 37, 3, 0), (163, .iload 4, 2, 0), (165, .iaload, 1, 0), (166, .i2b, 1, 0), (167, .bastore, 1, 0), (168, .iinc 4 1, 3, 0), (171, .goto (-24), 3, 147), (174, .aload_n 0, 1, 0), (175, .iload_n 3, 1, 0)],
  [(176, .putfield 174, 3, 0), (179, .iload_n 3, 1, 0), (180, .ireturn, 1, 0)]]
set_option maxRecDepth 100000 in
theorem tX7_sweep_ok : pt_ok YX7_sweep.2.1 tX7_sweep = true := by decide +kernel
theorem nX7_sweep : (plainFor yX7_sweep && decide (yX7_sweep.cls = pt_own YX7_sweep.1)) = true := by decide +kernel
abbrev YX7_maySwap : pt_Y := (7, cX7_maySwap, 8, (some .boolean), ({ frames := 4, cells := 0, slots := 0, locals := 109 } : Room))
def tX7_maySwap : pt_B := [
  [(0, .aload_n 0, 1, 0), (1, .getfield 52, 3, 0), (4, .iload_n 3, 1, 0), (5, .iaload, 1, 0), (6, .istore 4, 2, 0), (8, .aload_n 0, 1, 0), (9, .getfield 52, 3, 0), (12, .iload_n 3, 1, 0), (13, .iconst 1, 1, 0), (14, .iadd, 1, 0), (15, .iaload, 1, 0)],
  [(16, .istore 5, 2, 0), (18, .iload 4, 2, 0), (20, .iload 5, 2, 0), (22, .if_icmp .ge 7, 3, 29), (25, .iconst 1, 1, 0), (26, .goto 4, 3, 30), (29, .iconst 0, 1, 0), (30, .istore 6, 2, 0)],
  [(32, .iconst 0, 1, 0), (33, .istore 7, 2, 0), (35, .iload 7, 2, 0), (37, .iload_n 2, 1, 0), (38, .if_icmp .ge 49, 3, 87), (41, .iload 6, 2, 0), (43, .ifCond .eq 44, 3, 87), (46, .iload 7, 2, 0)],
  [(48, .iload 4, 2, 0), (50, .if_icmp .eq 24, 3, 74), (53, .iload 7, 2, 0), (55, .iload 5, 2, 0), (57, .if_icmp .eq 17, 3, 74), (60, .aload_n 0, 1, 0), (61, .iload_n 1, 1, 0), (62, .iload 4, 2, 0)],
  [(64, .iload 5, 2, 0), (66, .iload 7, 2, 0), (68, .invokevirtual 190, 3, 0), (71, .ifCond .eq 7, 3, 78), (74, .iconst 1, 1, 0), (75, .goto 4, 3, 79), (78, .iconst 0, 1, 0), (79, .istore 6, 2, 0)],
  [(81, .iinc 7 1, 3, 0), (84, .goto (-49), 3, 35), (87, .iload 6, 2, 0), (89, .ireturn, 1, 0)]]
set_option maxRecDepth 100000 in
theorem tX7_maySwap_ok : pt_ok YX7_maySwap.2.1 tX7_maySwap = true := by decide +kernel
theorem nX7_maySwap : (plainFor yX7_maySwap && decide (yX7_maySwap.cls = pt_own YX7_maySwap.1)) = true := by decide +kernel
abbrev YX7_isEmpty : pt_Y := (7, cX7_isEmpty, 7, (some .boolean), ({ frames := 4, cells := 0, slots := 0, locals := 101 } : Room))
def tX7_isEmpty : pt_B := [
  [(0, .iconst 0, 1, 0), (1, .istore 4, 2, 0), (3, .iload 4, 2, 0), (5, .iload_n 2, 1, 0), (6, .if_icmp .ge 88, 3, 94), (9, .iload_n 3, 1, 0), (10, .iload 4, 2, 0), (12, .ishr, 1, 0), (13, .iconst 1, 1, 0), (14, .iand, 1, 0), (15, .iconst 1, 1, 0)],
  [(16, .if_icmp .ne 6, 3, 22), (19, .goto 69, 3, 88), (22, .iconst 1, 1, 0), (23, .istore 5, 2, 0), (25, .iconst 0, 1, 0), (26, .istore 6, 2, 0), (28, .iload 6, 2, 0), (30, .iload_n 2, 1, 0), (31, .if_icmp .ge 50, 3, 81)],
  [(34, .iload 5, 2, 0), (36, .ifCond .eq 36, 3, 72), (39, .iload_n 3, 1, 0), (40, .iload 6, 2, 0), (42, .ishr, 1, 0), (43, .iconst 1, 1, 0), (44, .iand, 1, 0), (45, .ifCond .eq 23, 3, 68)],
  [(48, .aload_n 0, 1, 0), (49, .iload_n 1, 1, 0), (50, .iload 6, 2, 0), (52, .aload_n 0, 1, 0), (53, .iload_n 1, 1, 0), (54, .iload_n 3, 1, 0), (55, .iload 6, 2, 0), (57, .invokevirtual 144, 3, 0), (60, .iload 4, 2, 0), (62, .invokevirtual 118, 3, 0)],
  [(65, .ifCond .eq 7, 3, 72), (68, .iconst 1, 1, 0), (69, .goto 4, 3, 73), (72, .iconst 0, 1, 0), (73, .istore 5, 2, 0), (75, .iinc 6 1, 3, 0), (78, .goto (-50), 3, 28)],
  [(81, .iload 5, 2, 0), (83, .ifCond .eq 5, 3, 88), (86, .iconst 0, 1, 0), (87, .ireturn, 1, 0), (88, .iinc 4 1, 3, 0), (91, .goto (-88), 3, 3), (94, .iconst 1, 1, 0), (95, .ireturn, 1, 0)]]
set_option maxRecDepth 100000 in
theorem tX7_isEmpty_ok : pt_ok YX7_isEmpty.2.1 tX7_isEmpty = true := by decide +kernel
theorem nX7_isEmpty : (plainFor yX7_isEmpty && decide (yX7_isEmpty.cls = pt_own YX7_isEmpty.1)) = true := by decide +kernel
abbrev YX7_figures : pt_Y := (7, cX7_figures, 6, (some .int), ({ frames := 7, cells := 0, slots := 0, locals := 175 } : Room))
def tX7_figures : pt_B := [
  [(0, .aload_n 0, 1, 0), (1, .iconst 0, 1, 0), (2, .putfield 64, 3, 0), (5, .aload_n 0, 1, 0), (6, .iload_n 1, 1, 0), (7, .invokevirtual 141, 3, 0), (10, .ifCond .eq 14, 3, 24), (13, .iload_n 2, 1, 0), (14, .iconst 3, 1, 0), (15, .if_icmp .lt 9, 3, 24)],
  [(18, .iload_n 2, 1, 0), (19, .bipush 6, 2, 0), (21, .if_icmp .le 5, 3, 26), (24, .iconst (-1), 1, 0), (25, .ireturn, 1, 0), (26, .iconst 0, 1, 0), (27, .istore 4, 2, 0), (29, .iconst 0, 1, 0), (30, .istore 5, 2, 0)],
  [(32, .iload 5, 2, 0), (34, .iconst 1, 1, 0), (35, .aload_n 0, 1, 0), (36, .getfield 13, 3, 0), (39, .iload_n 1, 1, 0), (40, .iaload, 1, 0), (41, .ishl, 1, 0), (42, .if_icmp .ge 69, 3, 111), (45, .iload 5, 2, 0), (47, .invokestatic 129, 3, 0)],
  [(50, .iload_n 2, 1, 0), (51, .if_icmp .ne 54, 3, 105), (54, .aload_n 0, 1, 0), (55, .bipush 120, 2, 0), (57, .iload_n 1, 1, 0), (58, .imul, 1, 0), (59, .iload 5, 2, 0), (61, .invokevirtual 147, 3, 0)],
  [(64, .iload 5, 2, 0), (66, .if_icmp .eq 6, 3, 72), (69, .goto 36, 3, 105), (72, .iload 4, 2, 0), (74, .iload_n 3, 1, 0), (75, .ifCond .eq 22, 3, 97), (78, .aload_n 0, 1, 0), (79, .bipush 120, 2, 0)],
  [(81, .iload_n 1, 1, 0), (82, .imul, 1, 0), (83, .aload_n 0, 1, 0), (84, .getfield 13, 3, 0), (87, .iload_n 1, 1, 0), (88, .iaload, 1, 0), (89, .iload 5, 2, 0), (91, .invokevirtual 193, 3, 0), (94, .ifCond .eq 7, 3, 101)],
  [(97, .iconst 1, 1, 0), (98, .goto 4, 3, 102), (101, .iconst 0, 1, 0), (102, .iadd, 1, 0), (103, .istore 4, 2, 0), (105, .iinc 5 1, 3, 0), (108, .goto (-76), 3, 32), (111, .iload 4, 2, 0)],
  [(113, .ireturn, 1, 0)]]
set_option maxRecDepth 100000 in
theorem tX7_figures_ok : pt_ok YX7_figures.2.1 tX7_figures = true := by decide +kernel
theorem nX7_figures : (plainFor yX7_figures && decide (yX7_figures.cls = pt_own YX7_figures.1)) = true := by decide +kernel
abbrev YX7_lines : pt_Y := (7, cX7_lines, 8, (some .int), ({ frames := 3, cells := 0, slots := 0, locals := 75 } : Room))
def tX7_lines : pt_B := [
  [(0, .aload_n 0, 1, 0), (1, .iconst 0, 1, 0), (2, .putfield 64, 3, 0), (5, .aload_n 0, 1, 0), (6, .iload_n 1, 1, 0), (7, .invokevirtual 89, 3, 0), (10, .ifCond .ne 5, 3, 15), (13, .iconst (-1), 1, 0), (14, .ireturn, 1, 0), (15, .iconst 0, 1, 0)],
  [(16, .istore_n 3, 1, 0), (17, .iconst 0, 1, 0), (18, .istore 4, 2, 0), (20, .iload 4, 2, 0), (22, .aload_n 0, 1, 0), (23, .getfield 13, 3, 0), (26, .iload_n 1, 1, 0), (27, .iaload, 1, 0), (28, .if_icmp .ge 110, 3, 138), (31, .iload 4, 2, 0)],
  [(33, .iconst 1, 1, 0), (34, .iadd, 1, 0), (35, .istore 5, 2, 0), (37, .iload 5, 2, 0), (39, .aload_n 0, 1, 0), (40, .getfield 13, 3, 0), (43, .iload_n 1, 1, 0), (44, .iaload, 1, 0), (45, .if_icmp .ge 87, 3, 132)],
  [(48, .iconst 0, 1, 0), (49, .istore 6, 2, 0), (51, .iconst 0, 1, 0), (52, .istore 7, 2, 0), (54, .iload 7, 2, 0), (56, .aload_n 0, 1, 0), (57, .getfield 13, 3, 0), (60, .iload_n 1, 1, 0), (61, .iaload, 1, 0), (62, .if_icmp .ge 50, 3, 112)],
  [(65, .iload 6, 2, 0), (67, .iload 7, 2, 0), (69, .iload 4, 2, 0), (71, .if_icmp .eq 31, 3, 102), (74, .iload 7, 2, 0), (76, .iload 5, 2, 0), (78, .if_icmp .eq 24, 3, 102)],
  [(81, .aload_n 0, 1, 0), (82, .bipush 120, 2, 0), (84, .iload_n 1, 1, 0), (85, .imul, 1, 0), (86, .iload 4, 2, 0), (88, .iload 5, 2, 0), (90, .iload 7, 2, 0), (92, .invokevirtual 118, 3, 0), (95, .ifCond .eq 7, 3, 102)],
  [(98, .iconst 1, 1, 0), (99, .goto 4, 3, 103), (102, .iconst 0, 1, 0), (103, .iadd, 1, 0), (104, .istore 6, 2, 0), (106, .iinc 7 1, 3, 0), (109, .goto (-55), 3, 54)],
  [(112, .iload_n 3, 1, 0), (113, .iload 6, 2, 0), (115, .iload_n 2, 1, 0), (116, .if_icmp .ne 7, 3, 123), (119, .iconst 1, 1, 0), (120, .goto 4, 3, 124), (123, .iconst 0, 1, 0), (124, .iadd, 1, 0), (125, .istore_n 3, 1, 0), (126, .iinc 5 1, 3, 0)],
  [(129, .goto (-92), 3, 37), (132, .iinc 4 1, 3, 0), (135, .goto (-115), 3, 20), (138, .iload_n 3, 1, 0), (139, .ireturn, 1, 0)]]
set_option maxRecDepth 100000 in
theorem tX7_lines_ok : pt_ok YX7_lines.2.1 tX7_lines = true := by decide +kernel
theorem nX7_lines : (plainFor yX7_lines && decide (yX7_lines.cls = pt_own YX7_lines.1)) = true := by decide +kernel
abbrev YX7_inside : pt_Y := (7, cX7_inside, 8, (some .int), ({ frames := 3, cells := 0, slots := 0, locals := 65 } : Room))
def tX7_inside : pt_B := [
  [(0, .aload_n 0, 1, 0), (1, .iconst 0, 1, 0), (2, .putfield 64, 3, 0), (5, .aload_n 0, 1, 0), (6, .iload_n 1, 1, 0), (7, .iload_n 2, 1, 0), (8, .iload_n 3, 1, 0), (9, .iload 4, 2, 0), (11, .invokevirtual 107, 3, 0), (14, .ifCond .eq 22, 3, 36)],
  [(17, .aload_n 0, 1, 0), (18, .iload_n 1, 1, 0), (19, .iload_n 2, 1, 0), (20, .iload_n 3, 1, 0), (21, .iload 5, 2, 0), (23, .invokevirtual 107, 3, 0), (26, .ifCond .eq 10, 3, 36), (29, .iload 5, 2, 0), (31, .iload 4, 2, 0)],
  [(33, .if_icmp .ne 5, 3, 38), (36, .iconst (-1), 1, 0), (37, .ireturn, 1, 0), (38, .bipush 120, 2, 0), (40, .iload_n 1, 1, 0), (41, .imul, 1, 0), (42, .istore 6, 2, 0), (44, .aload_n 0, 1, 0), (45, .iload 6, 2, 0), (47, .iload_n 2, 1, 0)],
  [(48, .iload_n 3, 1, 0), (49, .iload 4, 2, 0), (51, .invokevirtual 81, 3, 0), (54, .istore 7, 2, 0), (56, .aload_n 0, 1, 0), (57, .iload 6, 2, 0), (59, .iload_n 2, 1, 0), (60, .iload_n 3, 1, 0), (61, .iload 5, 2, 0), (63, .invokevirtual 81, 3, 0)],
  [(66, .iload 7, 2, 0), (68, .if_icmp .ne 39, 3, 107), (71, .aload_n 0, 1, 0), (72, .iload 6, 2, 0), (74, .iload_n 3, 1, 0), (75, .iload 4, 2, 0), (77, .iload 5, 2, 0), (79, .invokevirtual 81, 3, 0)],
  [(82, .iload 7, 2, 0), (84, .if_icmp .ne 23, 3, 107), (87, .aload_n 0, 1, 0), (88, .iload 6, 2, 0), (90, .iload 4, 2, 0), (92, .iload_n 2, 1, 0), (93, .iload 5, 2, 0), (95, .invokevirtual 81, 3, 0)],
  [(98, .iload 7, 2, 0), (100, .if_icmp .ne 7, 3, 107), (103, .iconst 1, 1, 0), (104, .goto 4, 3, 108), (107, .iconst 0, 1, 0), (108, .ireturn, 1, 0)]]
set_option maxRecDepth 100000 in
theorem tX7_inside_ok : pt_ok YX7_inside.2.1 tX7_inside = true := by decide +kernel
theorem nX7_inside : (plainFor yX7_inside && decide (yX7_inside.cls = pt_own YX7_inside.1)) = true := by decide +kernel
abbrev YX7_byBits : pt_Y := (7, cX7_byBits, 7, none, ({ frames := 2, cells := 0, slots := 0, locals := 47 } : Room))
def tX7_byBits : pt_B := [
  [(0, .iload_n 1, 1, 0), (1, .iconst 1, 1, 0), (2, .isub, 1, 0), (3, .invokestatic 161, 3, 0), (6, .istore_n 3, 1, 0), (7, .iconst 0, 1, 0), (8, .istore 4, 2, 0), (10, .iload 4, 2, 0), (12, .iload_n 1, 1, 0), (13, .if_icmp .ge 85, 3, 98)],
  [(16, .iload 4, 2, 0), (18, .iconst 1, 1, 0), (19, .iadd, 1, 0), (20, .istore 5, 2, 0), (22, .iload 5, 2, 0), (24, .iload_n 1, 1, 0), (25, .if_icmp .ge 67, 3, 92), (28, .iload 5, 2, 0), (30, .iconst 1, 1, 0), (31, .iadd, 1, 0)],
  [(32, .istore 6, 2, 0), (34, .iload 6, 2, 0), (36, .iload_n 1, 1, 0), (37, .if_icmp .ge 49, 3, 86), (40, .iload 4, 2, 0), (42, .ifCond .le 6, 3, 48), (45, .iinc 3 (-1), 3, 0)],
  [(48, .aload_n 0, 1, 0), (49, .sipush 720, 3, 0), (52, .iload 4, 2, 0), (54, .iload 5, 2, 0), (56, .iload 6, 2, 0), (58, .iload 4, 2, 0), (60, .ifCond .le 16, 3, 76), (63, .iload_n 2, 1, 0)],
  [(64, .iload_n 3, 1, 0), (65, .ishr, 1, 0), (66, .iconst 1, 1, 0), (67, .iand, 1, 0), (68, .iconst 1, 1, 0), (69, .if_icmp .ne 7, 3, 76), (72, .iconst (-1), 1, 0), (73, .goto 4, 3, 77), (76, .iconst 1, 1, 0), (77, .invokevirtual 99, 3, 0)],
  [(80, .iinc 6 1, 3, 0), (83, .goto (-49), 3, 34), (86, .iinc 5 1, 3, 0), (89, .goto (-67), 3, 22), (92, .iinc 4 1, 3, 0), (95, .goto (-85), 3, 10)],
  [(98, .return_, 1, 0)]]
set_option maxRecDepth 100000 in
theorem tX7_byBits_ok : pt_ok YX7_byBits.2.1 tX7_byBits = true := by decide +kernel
theorem nX7_byBits : (plainFor yX7_byBits && decide (yX7_byBits.cls = pt_own YX7_byBits.1)) = true := by decide +kernel
abbrev YX7_find : pt_Y := (7, cX7_find, 5, none, ({ frames := 6, cells := 0, slots := 0, locals := 154 } : Room))
def tX7_find : pt_B := [
  [(0, .aload_n 0, 1, 0), (1, .getfield 58, 3, 0), (4, .iload_n 1, 1, 0), (5, .iaload, 1, 0), (6, .ifCond .lt 4, 3, 10), (9, .return_, 1, 0), (10, .iconst 0, 1, 0), (11, .istore_n 2, 1, 0), (12, .iconst 0, 1, 0), (13, .istore_n 3, 1, 0), (14, .iload_n 3, 1, 0), (15, .iconst 1, 1, 0)],
  [(16, .iload_n 1, 1, 0), (17, .iconst 1, 1, 0), (18, .isub, 1, 0), (19, .invokestatic 161, 3, 0), (22, .ishl, 1, 0), (23, .if_icmp .ge 109, 3, 132), (26, .aload_n 0, 1, 0), (27, .iload_n 1, 1, 0), (28, .iload_n 3, 1, 0), (29, .invokevirtual 196, 3, 0)],
  [(32, .aload_n 0, 1, 0), (33, .sipush 720, 3, 0), (36, .iload_n 1, 1, 0), (37, .invokevirtual 137, 3, 0), (40, .ifCond .eq 6, 3, 46), (43, .goto 83, 3, 126), (46, .aload_n 0, 1, 0), (47, .sipush 720, 3, 0)],
  [(50, .iload_n 1, 1, 0), (51, .invokevirtual 171, 3, 0), (54, .iconst 0, 1, 0), (55, .istore 4, 2, 0), (57, .iload 4, 2, 0), (59, .iload_n 1, 1, 0), (60, .if_icmp .ge 18, 3, 78), (63, .aload_n 0, 1, 0)],
  [(64, .getfield 31, 3, 0), (67, .iload 4, 2, 0), (69, .iload 4, 2, 0), (71, .iastore, 1, 0), (72, .iinc 4 1, 3, 0), (75, .goto (-18), 3, 57), (78, .aload_n 0, 1, 0), (79, .sipush 720, 3, 0)],
  [(82, .iload_n 1, 1, 0), (83, .aload_n 0, 1, 0), (84, .getfield 37, 3, 0), (87, .invokevirtual 157, 3, 0), (90, .aload_n 0, 1, 0), (91, .getfield 37, 3, 0), (94, .aload_n 0, 1, 0), (95, .getfield 40, 3, 0)],
  [(98, .iload_n 1, 1, 0), (99, .invokestatic 161, 3, 0), (102, .invokestatic 164, 3, 0), (105, .ifCond .eq 6, 3, 111), (108, .goto 18, 3, 126), (111, .aload_n 0, 1, 0)],
  [(112, .getfield 61, 3, 0), (115, .bipush 64, 2, 0), (117, .iload_n 1, 1, 0), (118, .imul, 1, 0), (119, .iload_n 2, 1, 0), (120, .iadd, 1, 0), (121, .iload_n 3, 1, 0), (122, .iastore, 1, 0), (123, .iinc 2 1, 3, 0), (126, .iinc 3 1, 3, 0)],
  [(129, .goto (-115), 3, 14), (132, .aload_n 0, 1, 0), (133, .getfield 58, 3, 0), (136, .iload_n 1, 1, 0), (137, .iload_n 2, 1, 0), (138, .iastore, 1, 0), (139, .return_, 1, 0)]]
set_option maxRecDepth 100000 in
theorem tX7_find_ok : pt_ok YX7_find.2.1 tX7_find = true := by decide +kernel
theorem nX7_find : (plainFor yX7_find && decide (yX7_find.cls = pt_own YX7_find.1)) = true := by decide +kernel
abbrev YX7_kinds : pt_Y := (7, cX7_kinds, 2, (some .int), ({ frames := 7, cells := 0, slots := 0, locals := 178 } : Room))
def tX7_kinds : pt_B := [
  [(0, .aload_n 0, 1, 0), (1, .iconst 0, 1, 0), (2, .putfield 64, 3, 0), (5, .iload_n 1, 1, 0), (6, .iconst 3, 1, 0), (7, .if_icmp .lt 9, 3, 16), (10, .iload_n 1, 1, 0), (11, .bipush 6, 2, 0), (13, .if_icmp .le 5, 3, 18)],
  [(16, .iconst (-1), 1, 0), (17, .ireturn, 1, 0), (18, .aload_n 0, 1, 0), (19, .iload_n 1, 1, 0), (20, .invokevirtual 199, 3, 0), (23, .aload_n 0, 1, 0), (24, .getfield 58, 3, 0), (27, .iload_n 1, 1, 0), (28, .iaload, 1, 0), (29, .ireturn, 1, 0)]]
set_option maxRecDepth 100000 in
theorem tX7_kinds_ok : pt_ok YX7_kinds.2.1 tX7_kinds = true := by decide +kernel
theorem nX7_kinds : (plainFor yX7_kinds && decide (yX7_kinds.cls = pt_own YX7_kinds.1)) = true := by decide +kernel
abbrev YX7_kind : pt_Y := (7, cX7_kind, 4, (some .boolean), ({ frames := 7, cells := 0, slots := 0, locals := 178 } : Room))
def tX7_kind : pt_B := [
  [(0, .aload_n 0, 1, 0), (1, .iconst 0, 1, 0), (2, .putfield 64, 3, 0), (5, .iload_n 1, 1, 0), (6, .invokestatic 85, 3, 0), (9, .ifCond .eq 14, 3, 23), (12, .iload_n 2, 1, 0), (13, .iconst 3, 1, 0), (14, .if_icmp .lt 9, 3, 23)],
  [(17, .iload_n 2, 1, 0), (18, .bipush 6, 2, 0), (20, .if_icmp .le 5, 3, 25), (23, .iconst 0, 1, 0), (24, .ireturn, 1, 0), (25, .aload_n 0, 1, 0), (26, .iload_n 2, 1, 0), (27, .invokevirtual 199, 3, 0), (30, .iload_n 3, 1, 0), (31, .ifCond .lt 13, 3, 44)],
  [(34, .iload_n 3, 1, 0), (35, .aload_n 0, 1, 0), (36, .getfield 58, 3, 0), (39, .iload_n 2, 1, 0), (40, .iaload, 1, 0), (41, .if_icmp .lt 5, 3, 46), (44, .iconst 0, 1, 0), (45, .ireturn, 1, 0), (46, .aload_n 0, 1, 0), (47, .iload_n 2, 1, 0)],
  [(48, .aload_n 0, 1, 0), (49, .getfield 61, 3, 0), (52, .bipush 64, 2, 0), (54, .iload_n 2, 1, 0), (55, .imul, 1, 0), (56, .iload_n 3, 1, 0), (57, .iadd, 1, 0), (58, .iaload, 1, 0), (59, .invokevirtual 196, 3, 0), (62, .aload_n 0, 1, 0), (63, .sipush 720, 3, 0)],
  [(66, .bipush 120, 2, 0), (68, .iload_n 1, 1, 0), (69, .imul, 1, 0), (70, .invokevirtual 103, 3, 0), (73, .aload_n 0, 1, 0), (74, .getfield 13, 3, 0), (77, .iload_n 1, 1, 0), (78, .iload_n 2, 1, 0), (79, .iastore, 1, 0)],
  [(80, .iconst 1, 1, 0), (81, .ireturn, 1, 0)]]
set_option maxRecDepth 100000 in
theorem tX7_kind_ok : pt_ok YX7_kind.2.1 tX7_kind = true := by decide +kernel
theorem nX7_kind : (plainFor yX7_kind && decide (yX7_kind.cls = pt_own YX7_kind.1)) = true := by decide +kernel
abbrev YX7_which : pt_Y := (7, cX7_which, 5, (some .int), ({ frames := 7, cells := 0, slots := 0, locals := 178 } : Room))
def tX7_which : pt_B := [
  [(0, .aload_n 0, 1, 0), (1, .iconst 0, 1, 0), (2, .putfield 64, 3, 0), (5, .aload_n 0, 1, 0), (6, .iload_n 1, 1, 0), (7, .invokevirtual 141, 3, 0), (10, .ifCond .eq 14, 3, 24), (13, .aload_n 0, 1, 0), (14, .getfield 13, 3, 0)],
  [(17, .iload_n 1, 1, 0), (18, .iaload, 1, 0), (19, .bipush 6, 2, 0), (21, .if_icmp .le 5, 3, 26), (24, .iconst (-1), 1, 0), (25, .ireturn, 1, 0), (26, .aload_n 0, 1, 0), (27, .getfield 13, 3, 0), (30, .iload_n 1, 1, 0), (31, .iaload, 1, 0)],
  [(32, .istore_n 2, 1, 0), (33, .aload_n 0, 1, 0), (34, .iload_n 2, 1, 0), (35, .invokevirtual 199, 3, 0), (38, .aload_n 0, 1, 0), (39, .bipush 120, 2, 0), (41, .iload_n 1, 1, 0), (42, .imul, 1, 0), (43, .iload_n 2, 1, 0), (44, .invokevirtual 171, 3, 0), (47, .iconst 0, 1, 0)],
  [(48, .istore_n 3, 1, 0), (49, .iload_n 3, 1, 0), (50, .iload_n 2, 1, 0), (51, .invokestatic 161, 3, 0), (54, .if_icmp .ge 21, 3, 75), (57, .aload_n 0, 1, 0), (58, .getfield 46, 3, 0), (61, .iload_n 3, 1, 0), (62, .aload_n 0, 1, 0), (63, .getfield 40, 3, 0)],
  [(66, .iload_n 3, 1, 0), (67, .iaload, 1, 0), (68, .iastore, 1, 0), (69, .iinc 3 1, 3, 0), (72, .goto (-23), 3, 49), (75, .iconst 0, 1, 0), (76, .istore_n 3, 1, 0), (77, .iload_n 3, 1, 0), (78, .aload_n 0, 1, 0), (79, .getfield 58, 3, 0)],
  [(82, .iload_n 2, 1, 0), (83, .iaload, 1, 0), (84, .if_icmp .ge 81, 3, 165), (87, .aload_n 0, 1, 0), (88, .iload_n 2, 1, 0), (89, .aload_n 0, 1, 0), (90, .getfield 61, 3, 0), (93, .bipush 64, 2, 0), (95, .iload_n 2, 1, 0)],
  [(96, .imul, 1, 0), (97, .iload_n 3, 1, 0), (98, .iadd, 1, 0), (99, .iaload, 1, 0), (100, .invokevirtual 196, 3, 0), (103, .iconst 0, 1, 0), (104, .istore 4, 2, 0), (106, .iload 4, 2, 0), (108, .iload_n 2, 1, 0), (109, .if_icmp .ge 18, 3, 127)],
  [(112, .aload_n 0, 1, 0), (113, .getfield 31, 3, 0), (116, .iload 4, 2, 0), (118, .iload 4, 2, 0), (120, .iastore, 1, 0), (121, .iinc 4 1, 3, 0), (124, .goto (-18), 3, 106), (127, .aload_n 0, 1, 0)],
  [(128, .sipush 720, 3, 0), (131, .iload_n 2, 1, 0), (132, .aload_n 0, 1, 0), (133, .getfield 37, 3, 0), (136, .invokevirtual 157, 3, 0), (139, .aload_n 0, 1, 0), (140, .getfield 37, 3, 0), (143, .aload_n 0, 1, 0)],
  [(144, .getfield 46, 3, 0), (147, .iload_n 2, 1, 0), (148, .invokestatic 161, 3, 0), (151, .invokestatic 164, 3, 0), (154, .ifCond .ne 5, 3, 159), (157, .iload_n 3, 1, 0), (158, .ireturn, 1, 0), (159, .iinc 3 1, 3, 0)],
  [(162, .goto (-85), 3, 77), (165, .iconst (-1), 1, 0), (166, .ireturn, 1, 0)]]
set_option maxRecDepth 100000 in
theorem tX7_which_ok : pt_ok YX7_which.2.1 tX7_which = true := by decide +kernel
theorem nX7_which : (plainFor yX7_which && decide (yX7_which.cls = pt_own YX7_which.1)) = true := by decide +kernel

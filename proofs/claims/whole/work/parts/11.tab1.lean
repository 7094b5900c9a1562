/-! methods: their instructions, by program -/
abbrev YX0_codeOf : pt_Y := (3, cX0_codeOf, 3, (some (.array .int)), ({ frames := 5, cells := 0, slots := 0, locals := 116 } : Room))
def tX0_codeOf : pt_B := [
  [(0, .aload_n 0, 1, 0), (1, .aload_n 1, 1, 0), (2, .invokevirtual 15, 3, 0), (5, .aload_n 1, 1, 0), (6, .getfield 19, 3, 0), (9, .aload_n 1, 1, 0), (10, .getfield 24, 3, 0), (13, .aload_n 1, 1, 0), (14, .getfield 27, 3, 0)],
  [(17, .invokestatic 31, 3, 0), (20, .invokestatic 35, 3, 0), (23, .ifCond .gt 7, 3, 30), (26, .iconst 1, 1, 0), (27, .goto 4, 3, 31), (30, .iconst 0, 1, 0), (31, .istore_n 2, 1, 0)],
  [(32, .iload_n 2, 1, 0), (33, .ifCond .eq 10, 3, 43), (36, .aload_n 1, 1, 0), (37, .getfield 19, 3, 0), (40, .goto 7, 3, 47), (43, .aload_n 1, 1, 0), (44, .getfield 24, 3, 0), (47, .areturn, 1, 0)]]
set_option maxRecDepth 100000 in
theorem tX0_codeOf_ok : pt_ok YX0_codeOf.2.1 tX0_codeOf = true := by decide +kernel
theorem nX0_codeOf : (plainFor yX0_codeOf && decide (yX0_codeOf.cls = pt_own YX0_codeOf.1)) = true := by decide +kernel
abbrev YX0_findFirstRows : pt_Y := (3, cX0_findFirstRows, 2, none, ({ frames := 4, cells := 0, slots := 0, locals := 95 } : Room))
def tX0_findFirstRows : pt_B := [
  [(0, .aload_n 1, 1, 0), (1, .getfield 39, 3, 0), (4, .ifCond .ne 28, 3, 32), (7, .aload_n 0, 1, 0), (8, .aload_n 1, 1, 0), (9, .iconst 0, 1, 0), (10, .aload_n 1, 1, 0), (11, .getfield 19, 3, 0), (14, .invokevirtual 43, 3, 0)],
  [(17, .aload_n 0, 1, 0), (18, .aload_n 1, 1, 0), (19, .iconst 1, 1, 0), (20, .aload_n 1, 1, 0), (21, .getfield 24, 3, 0), (24, .invokevirtual 43, 3, 0), (27, .aload_n 1, 1, 0), (28, .iconst 1, 1, 0), (29, .putfield 39, 3, 0)],
  [(32, .return_, 1, 0)]]
set_option maxRecDepth 100000 in
theorem tX0_findFirstRows_ok : pt_ok YX0_findFirstRows.2.1 tX0_findFirstRows = true := by decide +kernel
theorem nX0_findFirstRows : (plainFor yX0_findFirstRows && decide (yX0_findFirstRows.cls = pt_own YX0_findFirstRows.1)) = true := by decide +kernel
abbrev YX0_findFirstRow : pt_Y := (3, cX0_findFirstRow, 6, none, ({ frames := 3, cells := 0, slots := 0, locals := 70 } : Room))
def tX0_findFirstRow : pt_B := [
  [(0, .aload_n 3, 1, 0), (1, .iconst 3, 1, 0), (2, .invokestatic 47, 3, 0), (5, .aload_n 1, 1, 0), (6, .aload_n 1, 1, 0), (7, .invokevirtual 53, 3, 0), (10, .invokestatic 57, 3, 0), (13, .istore 4, 2, 0), (15, .iconst 0, 1, 0)],
  [(16, .istore 5, 2, 0), (18, .iload 5, 2, 0), (20, .aload_n 1, 1, 0), (21, .getfield 27, 3, 0), (24, .if_icmp .ge 34, 3, 58), (27, .iload 4, 2, 0), (29, .iload 5, 2, 0), (31, .invokestatic 63, 3, 0)],
  [(34, .ifCond .eq 18, 3, 52), (37, .aload_n 0, 1, 0), (38, .aload_n 1, 1, 0), (39, .iload 5, 2, 0), (41, .iload_n 2, 1, 0), (42, .invokevirtual 67, 3, 0), (45, .aload_n 0, 1, 0), (46, .aload_n 1, 1, 0), (47, .iload_n 2, 1, 0)],
  [(48, .aload_n 3, 1, 0), (49, .invokevirtual 71, 3, 0), (52, .iinc 5 1, 3, 0), (55, .goto (-37), 3, 18), (58, .return_, 1, 0)]]
set_option maxRecDepth 100000 in
theorem tX0_findFirstRow_ok : pt_ok YX0_findFirstRow.2.1 tX0_findFirstRow = true := by decide +kernel
theorem nX0_findFirstRow : (plainFor yX0_findFirstRow && decide (yX0_findFirstRow.cls = pt_own YX0_findFirstRow.1)) = true := by decide +kernel
abbrev YX0_nameBy : pt_Y := (3, cX0_nameBy, 7, none, ({ frames := 1, cells := 0, slots := 0, locals := 23 } : Room))
def tX0_nameBy : pt_B := [
  [(0, .aload_n 0, 1, 0), (1, .getfield 9, 3, 0), (4, .iconst 0, 1, 0), (5, .iload_n 2, 1, 0), (6, .iastore, 1, 0), (7, .iconst 0, 1, 0), (8, .istore 4, 2, 0), (10, .iload 4, 2, 0), (12, .aload_n 1, 1, 0), (13, .getfield 27, 3, 0)],
  [(16, .if_icmp .ge 73, 3, 89), (19, .iload 4, 2, 0), (21, .iload_n 2, 1, 0), (22, .if_icmp .eq 61, 3, 83), (25, .aload_n 1, 1, 0), (26, .iload_n 2, 1, 0), (27, .iload 4, 2, 0), (29, .invokevirtual 74, 3, 0)],
  [(32, .invokestatic 78, 3, 0), (35, .istore 5, 2, 0), (37, .iload_n 3, 1, 0), (38, .ifCond .eq 10, 3, 48), (41, .iload 5, 2, 0), (43, .iconst 1, 1, 0), (44, .iadd, 1, 0), (45, .goto 12, 3, 57)],
  [(48, .aload_n 1, 1, 0), (49, .getfield 27, 3, 0), (52, .iconst 1, 1, 0), (53, .isub, 1, 0), (54, .iload 5, 2, 0), (56, .isub, 1, 0), (57, .istore 6, 2, 0), (59, .iload 6, 2, 0), (61, .ifCond .le 22, 3, 83)],
  [(64, .iload 6, 2, 0), (66, .aload_n 0, 1, 0), (67, .getfield 9, 3, 0), (70, .arraylength, 1, 0), (71, .if_icmp .ge 12, 3, 83), (74, .aload_n 0, 1, 0), (75, .getfield 9, 3, 0), (78, .iload 6, 2, 0)],
  [(80, .iload 4, 2, 0), (82, .iastore, 1, 0), (83, .iinc 4 1, 3, 0), (86, .goto (-76), 3, 10), (89, .return_, 1, 0)]]
set_option maxRecDepth 100000 in
theorem tX0_nameBy_ok : pt_ok YX0_nameBy.2.1 tX0_nameBy = true := by decide +kernel
theorem nX0_nameBy : (plainFor yX0_nameBy && decide (yX0_nameBy.cls = pt_own YX0_nameBy.1)) = true := by decide +kernel
abbrev YX0_offerRow : pt_Y := (3, cX0_offerRow, 11, none, ({ frames := 1, cells := 0, slots := 0, locals := 24 } : Room))
def tX0_offerRow : pt_B := [
  [(0, .iconst 0, 1, 0), (1, .istore 4, 2, 0), (3, .iconst 0, 1, 0), (4, .istore 5, 2, 0), (6, .iconst 0, 1, 0), (7, .istore 6, 2, 0), (9, .iload 6, 2, 0), (11, .aload_n 1, 1, 0), (12, .getfield 27, 3, 0), (15, .if_icmp .ge 151, 3, 166)],
  [(18, .iload 6, 2, 0), (20, .iconst 1, 1, 0), (21, .iadd, 1, 0), (22, .istore 7, 2, 0), (24, .iload 7, 2, 0), (26, .aload_n 1, 1, 0), (27, .getfield 27, 3, 0), (30, .if_icmp .ge 130, 3, 160)],
  [(33, .iload 7, 2, 0), (35, .iconst 1, 1, 0), (36, .iadd, 1, 0), (37, .istore 8, 2, 0), (39, .iload 8, 2, 0), (41, .aload_n 1, 1, 0), (42, .getfield 27, 3, 0), (45, .if_icmp .ge 109, 3, 154)],
  [(48, .iload 5, 2, 0), (50, .aload_n 3, 1, 0), (51, .arraylength, 1, 0), (52, .if_icmp .ge 102, 3, 154), (55, .aload_n 1, 1, 0), (56, .aload_n 0, 1, 0), (57, .getfield 9, 3, 0), (60, .iload 6, 2, 0), (62, .iaload, 1, 0), (63, .aload_n 0, 1, 0)],
  [(64, .getfield 9, 3, 0), (67, .iload 7, 2, 0), (69, .iaload, 1, 0), (70, .aload_n 0, 1, 0), (71, .getfield 9, 3, 0), (74, .iload 8, 2, 0), (76, .iaload, 1, 0), (77, .invokevirtual 83, 3, 0)],
  [(80, .iload_n 2, 1, 0), (81, .if_icmp .eq 7, 3, 88), (84, .iconst 1, 1, 0), (85, .goto 4, 3, 89), (88, .iconst 0, 1, 0), (89, .istore 9, 2, 0), (91, .iload 9, 2, 0), (93, .ifCond .eq 7, 3, 100)],
  [(96, .iconst 1, 1, 0), (97, .goto 4, 3, 101), (100, .iconst 2, 1, 0), (101, .istore 10, 2, 0), (103, .iload 4, 2, 0), (105, .ifCond .ne 13, 3, 118), (108, .iload 10, 2, 0), (110, .aload_n 3, 1, 0), (111, .iload 5, 2, 0)],
  [(113, .iaload, 1, 0), (114, .if_icmp .le 4, 3, 118), (117, .return_, 1, 0), (118, .iload 4, 2, 0), (120, .ifCond .ne 12, 3, 132), (123, .iload 10, 2, 0), (125, .aload_n 3, 1, 0), (126, .iload 5, 2, 0)],
  [(128, .iaload, 1, 0), (129, .if_icmp .ge 7, 3, 136), (132, .iconst 1, 1, 0), (133, .goto 4, 3, 137), (136, .iconst 0, 1, 0), (137, .istore 4, 2, 0), (139, .aload_n 3, 1, 0), (140, .iload 5, 2, 0), (142, .iload 10, 2, 0)],
  [(144, .iastore, 1, 0), (145, .iinc 5 1, 3, 0), (148, .iinc 8 1, 3, 0), (151, .goto (-112), 3, 39), (154, .iinc 7 1, 3, 0), (157, .goto (-133), 3, 24)],
  [(160, .iinc 6 1, 3, 0), (163, .goto (-154), 3, 9), (166, .return_, 1, 0)]]
set_option maxRecDepth 100000 in
theorem tX0_offerRow_ok : pt_ok YX0_offerRow.2.1 tX0_offerRow = true := by decide +kernel
theorem nX0_offerRow : (plainFor yX0_offerRow && decide (yX0_offerRow.cls = pt_own YX0_offerRow.1)) = true := by decide +kernel
abbrev YX0_compareRows : pt_Y := (3, cX0_compareRows, 4, (some .int), ({ frames := 1, cells := 0, slots := 0, locals := 21 } : Room))
def tX0_compareRows : pt_B := [
  [(0, .iconst 0, 1, 0), (1, .istore_n 3, 1, 0), (2, .iload_n 3, 1, 0), (3, .iload_n 2, 1, 0), (4, .if_icmp .ge 40, 3, 44), (7, .iload_n 3, 1, 0), (8, .aload_n 0, 1, 0), (9, .arraylength, 1, 0), (10, .if_icmp .ge 34, 3, 44), (13, .iload_n 3, 1, 0), (14, .aload_n 1, 1, 0), (15, .arraylength, 1, 0)],
  [(16, .if_icmp .ge 28, 3, 44), (19, .aload_n 0, 1, 0), (20, .iload_n 3, 1, 0), (21, .iaload, 1, 0), (22, .aload_n 1, 1, 0), (23, .iload_n 3, 1, 0), (24, .iaload, 1, 0), (25, .if_icmp .eq 13, 3, 38), (28, .aload_n 0, 1, 0), (29, .iload_n 3, 1, 0), (30, .iaload, 1, 0), (31, .aload_n 1, 1, 0)],
  [(32, .iload_n 3, 1, 0), (33, .iaload, 1, 0), (34, .invokestatic 87, 3, 0), (37, .ireturn, 1, 0), (38, .iinc 3 1, 3, 0), (41, .goto (-39), 3, 2), (44, .iconst 0, 1, 0), (45, .ireturn, 1, 0)]]
set_option maxRecDepth 100000 in
theorem tX0_compareRows_ok : pt_ok YX0_compareRows.2.1 tX0_compareRows = true := by decide +kernel
theorem nX0_compareRows : (plainFor yX0_compareRows && decide (yX0_compareRows.cls = pt_own YX0_compareRows.1)) = true := by decide +kernel
abbrev YX0_bitsOf : pt_Y := (3, cX0_bitsOf, 4, (some .int), ({ frames := 0, cells := 0, slots := 0, locals := 0 } : Room))
def tX0_bitsOf : pt_B := [
  [(0, .iconst 0, 1, 0), (1, .istore_n 2, 1, 0), (2, .iconst 0, 1, 0), (3, .istore_n 3, 1, 0), (4, .iload_n 3, 1, 0), (5, .iload_n 1, 1, 0), (6, .if_icmp .ge 32, 3, 38), (9, .iload_n 3, 1, 0), (10, .aload_n 0, 1, 0), (11, .arraylength, 1, 0), (12, .if_icmp .ge 26, 3, 38), (15, .iload_n 2, 1, 0)],
  [(16, .iconst 1, 1, 0), (17, .ishl, 1, 0), (18, .aload_n 0, 1, 0), (19, .iload_n 3, 1, 0), (20, .iaload, 1, 0), (21, .iconst 2, 1, 0), (22, .if_icmp .ne 7, 3, 29), (25, .iconst 1, 1, 0), (26, .goto 4, 3, 30), (29, .iconst 0, 1, 0), (30, .ior, 1, 0), (31, .istore_n 2, 1, 0)],
  [(32, .iinc 3 1, 3, 0), (35, .goto (-31), 3, 4), (38, .iload_n 2, 1, 0), (39, .ireturn, 1, 0)]]
set_option maxRecDepth 100000 in
theorem tX0_bitsOf_ok : pt_ok YX0_bitsOf.2.1 tX0_bitsOf = true := by decide +kernel
theorem nX0_bitsOf : (plainFor yX0_bitsOf && decide (yX0_bitsOf.cls = pt_own YX0_bitsOf.1)) = true := by decide +kernel
abbrev YX1_faultOf : pt_Y := (5, cX1_faultOf, 2, (some .int), ({ frames := 4, cells := 0, slots := 0, locals := 101 } : Room))
def tX1_faultOf : pt_B := [
  [(0, .aload_n 0, 1, 0), (1, .getfield 7, 3, 0), (4, .bipush (-2), 2, 0), (6, .if_icmp .ne 24, 3, 30), (9, .aload_n 0, 1, 0), (10, .invokestatic 13, 3, 0), (13, .istore_n 1, 1, 0), (14, .aload_n 0, 1, 0), (15, .iload_n 1, 1, 0)],
  [(16, .ifCond .eq 7, 3, 23), (19, .iload_n 1, 1, 0), (20, .goto 7, 3, 27), (23, .aload_n 0, 1, 0), (24, .invokestatic 19, 3, 0), (27, .putfield 7, 3, 0), (30, .aload_n 0, 1, 0), (31, .getfield 7, 3, 0)],
  [(34, .ireturn, 1, 0)]]
set_option maxRecDepth 100000 in
theorem tX1_faultOf_ok : pt_ok YX1_faultOf.2.1 tX1_faultOf = true := by decide +kernel
theorem nX1_faultOf : (plainFor yX1_faultOf && decide (yX1_faultOf.cls = pt_own YX1_faultOf.1)) = true := by decide +kernel
abbrev YX1_firstFour : pt_Y := (5, cX1_firstFour, 5, (some .int), ({ frames := 2, cells := 0, slots := 0, locals := 49 } : Room))
def tX1_firstFour : pt_B := [
  [(0, .iconst 0, 1, 0), (1, .istore_n 1, 1, 0), (2, .iload_n 1, 1, 0), (3, .aload_n 0, 1, 0), (4, .getfield 22, 3, 0), (7, .if_icmp .ge 94, 3, 101), (10, .iload_n 1, 1, 0), (11, .iconst 1, 1, 0), (12, .iadd, 1, 0), (13, .istore_n 2, 1, 0), (14, .iload_n 2, 1, 0), (15, .aload_n 0, 1, 0)],
  [(16, .getfield 22, 3, 0), (19, .if_icmp .ge 76, 3, 95), (22, .iload_n 2, 1, 0), (23, .iconst 1, 1, 0), (24, .iadd, 1, 0), (25, .istore_n 3, 1, 0), (26, .iload_n 3, 1, 0), (27, .aload_n 0, 1, 0), (28, .getfield 22, 3, 0), (31, .if_icmp .ge 58, 3, 89)],
  [(34, .iload_n 3, 1, 0), (35, .iconst 1, 1, 0), (36, .iadd, 1, 0), (37, .istore 4, 2, 0), (39, .iload 4, 2, 0), (41, .aload_n 0, 1, 0), (42, .getfield 22, 3, 0), (45, .if_icmp .ge 38, 3, 83)],
  [(48, .aload_n 0, 1, 0), (49, .iload_n 1, 1, 0), (50, .iload_n 2, 1, 0), (51, .iload_n 3, 1, 0), (52, .iload 4, 2, 0), (54, .invokestatic 25, 3, 0), (57, .ifCond .eq 20, 3, 77), (60, .iconst 1, 1, 0), (61, .iload_n 1, 1, 0), (62, .ishl, 1, 0), (63, .iconst 1, 1, 0)],
  [(64, .iload_n 2, 1, 0), (65, .ishl, 1, 0), (66, .ior, 1, 0), (67, .iconst 1, 1, 0), (68, .iload_n 3, 1, 0), (69, .ishl, 1, 0), (70, .ior, 1, 0), (71, .iconst 1, 1, 0), (72, .iload 4, 2, 0), (74, .ishl, 1, 0), (75, .ior, 1, 0), (76, .ireturn, 1, 0), (77, .iinc 4 1, 3, 0)],
  [(80, .goto (-41), 3, 39), (83, .iinc 3 1, 3, 0), (86, .goto (-60), 3, 26), (89, .iinc 2 1, 3, 0), (92, .goto (-78), 3, 14), (95, .iinc 1 1, 3, 0)],
  [(98, .goto (-96), 3, 2), (101, .iconst 0, 1, 0), (102, .ireturn, 1, 0)]]
set_option maxRecDepth 100000 in
theorem tX1_firstFour_ok : pt_ok YX1_firstFour.2.1 tX1_firstFour = true := by decide +kernel
theorem nX1_firstFour : (plainFor yX1_firstFour && decide (yX1_firstFour.cls = pt_own YX1_firstFour.1)) = true := by decide +kernel
abbrev YX1_breaksFour : pt_Y := (5, cX1_breaksFour, 6, (some .boolean), ({ frames := 1, cells := 0, slots := 0, locals := 24 } : Room))
def tX1_breaksFour : pt_B := [
  [(0, .aload_n 0, 1, 0), (1, .iload_n 1, 1, 0), (2, .iload_n 2, 1, 0), (3, .iload_n 3, 1, 0), (4, .invokevirtual 29, 3, 0), (7, .istore 5, 2, 0), (9, .aload_n 0, 1, 0), (10, .iload_n 1, 1, 0), (11, .iload_n 2, 1, 0), (12, .iload 4, 2, 0), (14, .invokevirtual 29, 3, 0)],
  [(17, .iload 5, 2, 0), (19, .if_icmp .eq 33, 3, 52), (22, .aload_n 0, 1, 0), (23, .iload_n 1, 1, 0), (24, .iload_n 3, 1, 0), (25, .iload 4, 2, 0), (27, .invokevirtual 29, 3, 0), (30, .iload 5, 2, 0)],
  [(32, .if_icmp .ne 20, 3, 52), (35, .aload_n 0, 1, 0), (36, .iload_n 2, 1, 0), (37, .iload_n 3, 1, 0), (38, .iload 4, 2, 0), (40, .invokevirtual 29, 3, 0), (43, .iload 5, 2, 0), (45, .if_icmp .eq 7, 3, 52)],
  [(48, .iconst 1, 1, 0), (49, .goto 4, 3, 53), (52, .iconst 0, 1, 0), (53, .ireturn, 1, 0)]]
set_option maxRecDepth 100000 in
theorem tX1_breaksFour_ok : pt_ok YX1_breaksFour.2.1 tX1_breaksFour = true := by decide +kernel
theorem nX1_breaksFour : (plainFor yX1_breaksFour && decide (yX1_breaksFour.cls = pt_own YX1_breaksFour.1)) = true := by decide +kernel
abbrev YX1_firstFive : pt_Y := (5, cX1_firstFive, 6, (some .int), ({ frames := 3, cells := 0, slots := 0, locals := 76 } : Room))
def tX1_firstFive : pt_B := [
  [(0, .iconst 0, 1, 0), (1, .istore_n 1, 1, 0), (2, .iload_n 1, 1, 0), (3, .aload_n 0, 1, 0), (4, .getfield 22, 3, 0), (7, .if_icmp .ge 122, 3, 129), (10, .iload_n 1, 1, 0), (11, .iconst 1, 1, 0), (12, .iadd, 1, 0), (13, .istore_n 2, 1, 0), (14, .iload_n 2, 1, 0), (15, .aload_n 0, 1, 0)],
  [(16, .getfield 22, 3, 0), (19, .if_icmp .ge 104, 3, 123), (22, .iload_n 2, 1, 0), (23, .iconst 1, 1, 0), (24, .iadd, 1, 0), (25, .istore_n 3, 1, 0), (26, .iload_n 3, 1, 0), (27, .aload_n 0, 1, 0), (28, .getfield 22, 3, 0), (31, .if_icmp .ge 86, 3, 117)],
  [(34, .iload_n 3, 1, 0), (35, .iconst 1, 1, 0), (36, .iadd, 1, 0), (37, .istore 4, 2, 0), (39, .iload 4, 2, 0), (41, .aload_n 0, 1, 0), (42, .getfield 22, 3, 0), (45, .if_icmp .ge 66, 3, 111)],
  [(48, .iload 4, 2, 0), (50, .iconst 1, 1, 0), (51, .iadd, 1, 0), (52, .istore 5, 2, 0), (54, .iload 5, 2, 0), (56, .aload_n 0, 1, 0), (57, .getfield 22, 3, 0), (60, .if_icmp .ge 45, 3, 105), (63, .aload_n 0, 1, 0)],
  [(64, .iload_n 1, 1, 0), (65, .iload_n 2, 1, 0), (66, .iload_n 3, 1, 0), (67, .iload 4, 2, 0), (69, .iload 5, 2, 0), (71, .invokestatic 33, 3, 0), (74, .ifCond .eq 25, 3, 99), (77, .iconst 1, 1, 0), (78, .iload_n 1, 1, 0), (79, .ishl, 1, 0)],
  [(80, .iconst 1, 1, 0), (81, .iload_n 2, 1, 0), (82, .ishl, 1, 0), (83, .ior, 1, 0), (84, .iconst 1, 1, 0), (85, .iload_n 3, 1, 0), (86, .ishl, 1, 0), (87, .ior, 1, 0), (88, .iconst 1, 1, 0), (89, .iload 4, 2, 0), (91, .ishl, 1, 0), (92, .ior, 1, 0), (93, .iconst 1, 1, 0), (94, .iload 5, 2, 0)],
  [(96, .ishl, 1, 0), (97, .ior, 1, 0), (98, .ireturn, 1, 0), (99, .iinc 5 1, 3, 0), (102, .goto (-48), 3, 54), (105, .iinc 4 1, 3, 0), (108, .goto (-69), 3, 39), (111, .iinc 3 1, 3, 0)],
  [(114, .goto (-88), 3, 26), (117, .iinc 2 1, 3, 0), (120, .goto (-106), 3, 14), (123, .iinc 1 1, 3, 0), (126, .goto (-124), 3, 2)],
  [(129, .iconst 0, 1, 0), (130, .ireturn, 1, 0)]]
set_option maxRecDepth 100000 in
theorem tX1_firstFive_ok : pt_ok YX1_firstFive.2.1 tX1_firstFive = true := by decide +kernel
theorem nX1_firstFive : (plainFor yX1_firstFive && decide (yX1_firstFive.cls = pt_own YX1_firstFive.1)) = true := by decide +kernel
abbrev YX1_breaksFive : pt_Y := (5, cX1_breaksFive, 6, (some .boolean), ({ frames := 2, cells := 0, slots := 0, locals := 51 } : Room))
def tX1_breaksFive : pt_B := [
  [(0, .aload_n 0, 1, 0), (1, .iload_n 1, 1, 0), (2, .iload_n 2, 1, 0), (3, .iload_n 3, 1, 0), (4, .iload 4, 2, 0), (6, .iload 5, 2, 0), (8, .invokestatic 37, 3, 0), (11, .ifCond .ne 59, 3, 70), (14, .aload_n 0, 1, 0), (15, .iload_n 2, 1, 0)],
  [(16, .iload_n 1, 1, 0), (17, .iload_n 3, 1, 0), (18, .iload 4, 2, 0), (20, .iload 5, 2, 0), (22, .invokestatic 37, 3, 0), (25, .ifCond .ne 45, 3, 70), (28, .aload_n 0, 1, 0), (29, .iload_n 3, 1, 0), (30, .iload_n 1, 1, 0), (31, .iload_n 2, 1, 0)],
  [(32, .iload 4, 2, 0), (34, .iload 5, 2, 0), (36, .invokestatic 37, 3, 0), (39, .ifCond .ne 31, 3, 70), (42, .aload_n 0, 1, 0), (43, .iload 4, 2, 0), (45, .iload_n 1, 1, 0), (46, .iload_n 2, 1, 0), (47, .iload_n 3, 1, 0)],
  [(48, .iload 5, 2, 0), (50, .invokestatic 37, 3, 0), (53, .ifCond .ne 17, 3, 70), (56, .aload_n 0, 1, 0), (57, .iload 5, 2, 0), (59, .iload_n 1, 1, 0), (60, .iload_n 2, 1, 0), (61, .iload_n 3, 1, 0), (62, .iload 4, 2, 0)],
  [(64, .invokestatic 37, 3, 0), (67, .ifCond .eq 7, 3, 74), (70, .iconst 1, 1, 0), (71, .goto 4, 3, 75), (74, .iconst 0, 1, 0), (75, .ireturn, 1, 0)]]
set_option maxRecDepth 100000 in
theorem tX1_breaksFive_ok : pt_ok YX1_breaksFive.2.1 tX1_breaksFive = true := by decide +kernel
theorem nX1_breaksFive : (plainFor yX1_breaksFive && decide (yX1_breaksFive.cls = pt_own YX1_breaksFive.1)) = true := by decide +kernel
abbrev YX1_isOneSided : pt_Y := (5, cX1_isOneSided, 8, (some .boolean), ({ frames := 1, cells := 0, slots := 0, locals := 24 } : Room))
def tX1_isOneSided : pt_B := [
  [(0, .aload_n 0, 1, 0), (1, .iload_n 1, 1, 0), (2, .iload_n 2, 1, 0), (3, .iload_n 3, 1, 0), (4, .invokevirtual 29, 3, 0), (7, .aload_n 0, 1, 0), (8, .iload_n 1, 1, 0), (9, .iload 4, 2, 0), (11, .iload 5, 2, 0), (13, .invokevirtual 29, 3, 0)],
  [(16, .if_icmp .ne 7, 3, 23), (19, .iconst 1, 1, 0), (20, .goto 4, 3, 24), (23, .iconst 0, 1, 0), (24, .istore 6, 2, 0), (26, .aload_n 0, 1, 0), (27, .iload_n 1, 1, 0), (28, .iload_n 2, 1, 0), (29, .iload 4, 2, 0), (31, .invokevirtual 29, 3, 0)],
  [(34, .aload_n 0, 1, 0), (35, .iload_n 1, 1, 0), (36, .iload_n 3, 1, 0), (37, .iload 5, 2, 0), (39, .invokevirtual 29, 3, 0), (42, .if_icmp .eq 7, 3, 49), (45, .iconst 1, 1, 0), (46, .goto 4, 3, 50)],
  [(49, .iconst 0, 1, 0), (50, .istore 7, 2, 0), (52, .iload 6, 2, 0), (54, .iload 7, 2, 0), (56, .if_icmp .ne 36, 3, 92), (59, .iload 6, 2, 0), (61, .aload_n 0, 1, 0), (62, .iload_n 1, 1, 0), (63, .iload_n 2, 1, 0)],
  [(64, .iload 5, 2, 0), (66, .invokevirtual 29, 3, 0), (69, .aload_n 0, 1, 0), (70, .iload_n 1, 1, 0), (71, .iload_n 3, 1, 0), (72, .iload 4, 2, 0), (74, .invokevirtual 29, 3, 0), (77, .if_icmp .ne 7, 3, 84)],
  [(80, .iconst 1, 1, 0), (81, .goto 4, 3, 85), (84, .iconst 0, 1, 0), (85, .if_icmp .ne 7, 3, 92), (88, .iconst 1, 1, 0), (89, .goto 4, 3, 93), (92, .iconst 0, 1, 0), (93, .ireturn, 1, 0)]]
set_option maxRecDepth 100000 in
theorem tX1_isOneSided_ok : pt_ok YX1_isOneSided.2.1 tX1_isOneSided = true := by decide +kernel
theorem nX1_isOneSided : (plainFor yX1_isOneSided && decide (yX1_isOneSided.cls = pt_own YX1_isOneSided.1)) = true := by decide +kernel
abbrev YX2_isIn : pt_Y := (6, cX2_isIn, 2, (some .boolean), ({ frames := 0, cells := 0, slots := 0, locals := 0 } : Room))
def tX2_isIn : pt_B := [
  [(0, .iload_n 0, 1, 0), (1, .iload_n 1, 1, 0), (2, .ishr, 1, 0), (3, .iconst 1, 1, 0), (4, .iand, 1, 0), (5, .iconst 1, 1, 0), (6, .if_icmp .ne 7, 3, 13), (9, .iconst 1, 1, 0), (10, .goto 4, 3, 14), (13, .iconst 0, 1, 0), (14, .ireturn, 1, 0)]]
set_option maxRecDepth 100000 in
theorem tX2_isIn_ok : pt_ok YX2_isIn.2.1 tX2_isIn = true := by decide +kernel
theorem nX2_isIn : (plainFor yX2_isIn && decide (yX2_isIn.cls = pt_own YX2_isIn.1)) = true := by decide +kernel
abbrev YX2_leastOf : pt_Y := (6, cX2_leastOf, 3, (some .int), ({ frames := 1, cells := 0, slots := 0, locals := 21 } : Room))
def tX2_leastOf : pt_B := [
  [(0, .iconst 0, 1, 0), (1, .istore_n 2, 1, 0), (2, .iload_n 2, 1, 0), (3, .aload_n 0, 1, 0), (4, .getfield 9, 3, 0), (7, .if_icmp .ge 19, 3, 26), (10, .iload_n 1, 1, 0), (11, .iload_n 2, 1, 0), (12, .invokestatic 15, 3, 0), (15, .ifCond .eq 5, 3, 20)],
  [(18, .iload_n 2, 1, 0), (19, .ireturn, 1, 0), (20, .iinc 2 1, 3, 0), (23, .goto (-21), 3, 2), (26, .iconst (-1), 1, 0), (27, .ireturn, 1, 0)]]
set_option maxRecDepth 100000 in
theorem tX2_leastOf_ok : pt_ok YX2_leastOf.2.1 tX2_leastOf = true := by decide +kernel
theorem nX2_leastOf : (plainFor yX2_leastOf && decide (yX2_leastOf.cls = pt_own YX2_leastOf.1)) = true := by decide +kernel
abbrev YX2_nextTo : pt_Y := (6, cX2_nextTo, 5, (some .int), ({ frames := 1, cells := 0, slots := 0, locals := 23 } : Room))
def tX2_nextTo : pt_B := [
  [(0, .iconst 0, 1, 0), (1, .istore_n 3, 1, 0), (2, .iload_n 3, 1, 0), (3, .aload_n 0, 1, 0), (4, .getfield 9, 3, 0), (7, .if_icmp .ge 51, 3, 58), (10, .iload_n 3, 1, 0), (11, .iload_n 2, 1, 0), (12, .if_icmp .eq 40, 3, 52), (15, .iload_n 1, 1, 0)],
  [(16, .iload_n 3, 1, 0), (17, .invokestatic 15, 3, 0), (20, .ifCond .eq 32, 3, 52), (23, .iload_n 1, 1, 0), (24, .iconst 1, 1, 0), (25, .iload_n 2, 1, 0), (26, .ishl, 1, 0), (27, .iconst 1, 1, 0), (28, .iload_n 3, 1, 0), (29, .ishl, 1, 0), (30, .ior, 1, 0), (31, .iconst (-1), 1, 0)],
  [(32, .ixor, 1, 0), (33, .iand, 1, 0), (34, .istore 4, 2, 0), (36, .iload 4, 2, 0), (38, .aload_n 0, 1, 0), (39, .iload_n 2, 1, 0), (40, .iload_n 3, 1, 0), (41, .invokevirtual 21, 3, 0), (44, .iconst (-1), 1, 0), (45, .ixor, 1, 0), (46, .iand, 1, 0), (47, .ifCond .ne 5, 3, 52)],
  [(50, .iload_n 3, 1, 0), (51, .ireturn, 1, 0), (52, .iinc 3 1, 3, 0), (55, .goto (-53), 3, 2), (58, .iconst (-1), 1, 0), (59, .ireturn, 1, 0)]]
set_option maxRecDepth 100000 in
theorem tX2_nextTo_ok : pt_ok YX2_nextTo.2.1 tX2_nextTo = true := by decide +kernel
theorem nX2_nextTo : (plainFor yX2_nextTo && decide (yX2_nextTo.cls = pt_own YX2_nextTo.1)) = true := by decide +kernel
abbrev YX2_rimOf : pt_Y := (6, cX2_rimOf, 4, (some .int), ({ frames := 2, cells := 0, slots := 0, locals := 47 } : Room))
def tX2_rimOf : pt_B := [
  [(0, .iload_n 1, 1, 0), (1, .invokestatic 25, 3, 0), (4, .iconst 3, 1, 0), (5, .if_icmp .ge 5, 3, 10), (8, .iload_n 1, 1, 0), (9, .ireturn, 1, 0), (10, .iconst 0, 1, 0), (11, .istore_n 2, 1, 0), (12, .iconst 0, 1, 0), (13, .istore_n 3, 1, 0), (14, .iload_n 3, 1, 0), (15, .aload_n 0, 1, 0)],
  [(16, .getfield 9, 3, 0), (19, .if_icmp .ge 33, 3, 52), (22, .iload_n 1, 1, 0), (23, .iload_n 3, 1, 0), (24, .invokestatic 15, 3, 0), (27, .ifCond .eq 19, 3, 46), (30, .aload_n 0, 1, 0), (31, .iload_n 1, 1, 0)],
  [(32, .iload_n 3, 1, 0), (33, .invokestatic 31, 3, 0), (36, .iconst (-1), 1, 0), (37, .if_icmp .eq 9, 3, 46), (40, .iload_n 2, 1, 0), (41, .iconst 1, 1, 0), (42, .iload_n 3, 1, 0), (43, .ishl, 1, 0), (44, .ior, 1, 0), (45, .istore_n 2, 1, 0), (46, .iinc 3 1, 3, 0)],
  [(49, .goto (-35), 3, 14), (52, .iload_n 2, 1, 0), (53, .ireturn, 1, 0)]]
set_option maxRecDepth 100000 in
theorem tX2_rimOf_ok : pt_ok YX2_rimOf.2.1 tX2_rimOf = true := by decide +kernel
theorem nX2_rimOf : (plainFor yX2_rimOf && decide (yX2_rimOf.cls = pt_own YX2_rimOf.1)) = true := by decide +kernel
abbrev YX2_layerOf : pt_Y := (6, cX2_layerOf, 5, (some .int), ({ frames := 3, cells := 0, slots := 0, locals := 70 } : Room))
def tX2_layerOf : pt_B := [
  [(0, .aload_n 0, 1, 0), (1, .invokevirtual 35, 3, 0), (4, .istore_n 2, 1, 0), (5, .iconst 0, 1, 0), (6, .istore_n 3, 1, 0), (7, .iload_n 3, 1, 0), (8, .aload_n 0, 1, 0), (9, .getfield 9, 3, 0), (12, .if_icmp .ge 34, 3, 46), (15, .aload_n 0, 1, 0)],
  [(16, .iload_n 2, 1, 0), (17, .invokestatic 39, 3, 0), (20, .istore 4, 2, 0), (22, .iload 4, 2, 0), (24, .iload_n 1, 1, 0), (25, .invokestatic 15, 3, 0), (28, .ifCond .eq 5, 3, 33), (31, .iload_n 3, 1, 0)],
  [(32, .ireturn, 1, 0), (33, .iload_n 2, 1, 0), (34, .iload 4, 2, 0), (36, .iconst (-1), 1, 0), (37, .ixor, 1, 0), (38, .iand, 1, 0), (39, .istore_n 2, 1, 0), (40, .iinc 3 1, 3, 0), (43, .goto (-36), 3, 7), (46, .iconst (-1), 1, 0), (47, .ireturn, 1, 0)]]
set_option maxRecDepth 100000 in
theorem tX2_layerOf_ok : pt_ok YX2_layerOf.2.1 tX2_layerOf = true := by decide +kernel
theorem nX2_layerOf : (plainFor yX2_layerOf && decide (yX2_layerOf.cls = pt_own YX2_layerOf.1)) = true := by decide +kernel
abbrev YX2_isFigure : pt_Y := (6, cX2_isFigure, 3, (some .boolean), ({ frames := 2, cells := 0, slots := 0, locals := 47 } : Room))
def tX2_isFigure : pt_B := [
  [(0, .iconst 0, 1, 0), (1, .istore_n 2, 1, 0), (2, .iload_n 2, 1, 0), (3, .aload_n 0, 1, 0), (4, .getfield 9, 3, 0), (7, .if_icmp .ge 29, 3, 36), (10, .iload_n 1, 1, 0), (11, .iload_n 2, 1, 0), (12, .invokestatic 15, 3, 0), (15, .ifCond .eq 15, 3, 30)],
  [(18, .aload_n 0, 1, 0), (19, .iload_n 1, 1, 0), (20, .iload_n 2, 1, 0), (21, .invokestatic 31, 3, 0), (24, .iconst (-1), 1, 0), (25, .if_icmp .ne 5, 3, 30), (28, .iconst 0, 1, 0), (29, .ireturn, 1, 0), (30, .iinc 2 1, 3, 0)],
  [(33, .goto (-31), 3, 2), (36, .iconst 1, 1, 0), (37, .ireturn, 1, 0)]]
set_option maxRecDepth 100000 in
theorem tX2_isFigure_ok : pt_ok YX2_isFigure.2.1 tX2_isFigure = true := by decide +kernel
theorem nX2_isFigure : (plainFor yX2_isFigure && decide (yX2_isFigure.cls = pt_own YX2_isFigure.1)) = true := by decide +kernel
abbrev YX2_insideOf : pt_Y := (6, cX2_insideOf, 4, (some .int), ({ frames := 2, cells := 0, slots := 0, locals := 47 } : Room))
def tX2_insideOf : pt_B := [
  [(0, .aload_n 0, 1, 0), (1, .invokevirtual 35, 3, 0), (4, .iload_n 1, 1, 0), (5, .iconst (-1), 1, 0), (6, .ixor, 1, 0), (7, .iand, 1, 0), (8, .istore_n 2, 1, 0), (9, .iconst 0, 1, 0), (10, .istore_n 3, 1, 0), (11, .iload_n 3, 1, 0), (12, .aload_n 0, 1, 0), (13, .getfield 9, 3, 0)],
  [(16, .if_icmp .ge 31, 3, 47), (19, .iload_n 1, 1, 0), (20, .iload_n 3, 1, 0), (21, .invokestatic 15, 3, 0), (24, .ifCond .eq 17, 3, 41), (27, .iload_n 2, 1, 0), (28, .aload_n 0, 1, 0), (29, .iload_n 3, 1, 0), (30, .aload_n 0, 1, 0), (31, .iload_n 1, 1, 0)],
  [(32, .iload_n 3, 1, 0), (33, .invokestatic 31, 3, 0), (36, .invokevirtual 21, 3, 0), (39, .iand, 1, 0), (40, .istore_n 2, 1, 0), (41, .iinc 3 1, 3, 0), (44, .goto (-33), 3, 11), (47, .iload_n 2, 1, 0)],
  [(48, .ireturn, 1, 0)]]
set_option maxRecDepth 100000 in
theorem tX2_insideOf_ok : pt_ok YX2_insideOf.2.1 tX2_insideOf = true := by decide +kernel
theorem nX2_insideOf : (plainFor yX2_insideOf && decide (yX2_insideOf.cls = pt_own YX2_insideOf.1)) = true := by decide +kernel
abbrev YX3_read : pt_Y := (4, cX3_read, 5, (some .boolean), ({ frames := 1, cells := 0, slots := 0, locals := 23 } : Room))
def tX3_read : pt_B := [
  [(0, .aload_n 1, 1, 0), (1, .getfield 24, 3, 0), (4, .iload_n 2, 1, 0), (5, .invokestatic 30, 3, 0), (8, .if_icmp .eq 5, 3, 13), (11, .iconst 0, 1, 0), (12, .ireturn, 1, 0), (13, .aload_n 0, 1, 0), (14, .iload_n 2, 1, 0), (15, .invokevirtual 34, 3, 0)],
  [(18, .iconst 0, 1, 0), (19, .istore_n 3, 1, 0), (20, .iload_n 3, 1, 0), (21, .aload_n 1, 1, 0), (22, .getfield 24, 3, 0), (25, .if_icmp .ge 82, 3, 107), (28, .aload_n 1, 1, 0), (29, .iload_n 3, 1, 0), (30, .invokevirtual 38, 3, 0)],
  [(33, .istore 4, 2, 0), (35, .iload 4, 2, 0), (37, .ifCond .lt 30, 3, 67), (40, .iload 4, 2, 0), (42, .iload_n 2, 1, 0), (43, .iconst 2, 1, 0), (44, .isub, 1, 0), (45, .if_icmp .gt 22, 3, 67)],
  [(48, .aload_n 0, 1, 0), (49, .getfield 15, 3, 0), (52, .iload 4, 2, 0), (54, .iaload, 1, 0), (55, .aload_n 0, 1, 0), (56, .getfield 15, 3, 0), (59, .iload 4, 2, 0), (61, .iconst 1, 1, 0), (62, .iadd, 1, 0), (63, .iaload, 1, 0)],
  [(64, .if_icmp .le 5, 3, 69), (67, .iconst 0, 1, 0), (68, .ireturn, 1, 0), (69, .aload_n 0, 1, 0), (70, .getfield 21, 3, 0), (73, .aload_n 0, 1, 0), (74, .getfield 15, 3, 0), (77, .iload 4, 2, 0), (79, .iaload, 1, 0)],
  [(80, .bipush 10, 2, 0), (82, .imul, 1, 0), (83, .aload_n 0, 1, 0), (84, .getfield 15, 3, 0), (87, .iload 4, 2, 0), (89, .iconst 1, 1, 0), (90, .iadd, 1, 0), (91, .iaload, 1, 0), (92, .iadd, 1, 0), (93, .iload_n 3, 1, 0), (94, .iastore, 1, 0), (95, .aload_n 0, 1, 0)],
  [(96, .iload 4, 2, 0), (98, .invokevirtual 41, 3, 0), (101, .iinc 3 1, 3, 0), (104, .goto (-84), 3, 20), (107, .iconst 1, 1, 0), (108, .ireturn, 1, 0)]]
set_option maxRecDepth 100000 in
theorem tX3_read_ok : pt_ok YX3_read.2.1 tX3_read = true := by decide +kernel
theorem nX3_read : (plainFor yX3_read && decide (yX3_read.cls = pt_own YX3_read.1)) = true := by decide +kernel
abbrev YX3_fill : pt_Y := (4, cX3_fill, 6, none, ({ frames := 2, cells := 0, slots := 0, locals := 49 } : Room))
def tX3_fill : pt_B := [
  [(0, .aload_n 1, 1, 0), (1, .iload_n 2, 1, 0), (2, .invokevirtual 44, 3, 0), (5, .iconst 0, 1, 0), (6, .istore_n 3, 1, 0), (7, .iload_n 3, 1, 0), (8, .iload_n 2, 1, 0), (9, .if_icmp .ge 86, 3, 95), (12, .iload_n 3, 1, 0), (13, .iconst 1, 1, 0), (14, .iadd, 1, 0), (15, .istore 4, 2, 0)],
  [(17, .iload 4, 2, 0), (19, .iload_n 2, 1, 0), (20, .if_icmp .ge 69, 3, 89), (23, .iload 4, 2, 0), (25, .iconst 1, 1, 0), (26, .iadd, 1, 0), (27, .istore 5, 2, 0), (29, .iload 5, 2, 0), (31, .iload_n 2, 1, 0)],
  [(32, .if_icmp .ge 51, 3, 83), (35, .aload_n 1, 1, 0), (36, .iload_n 3, 1, 0), (37, .iload 4, 2, 0), (39, .iload 5, 2, 0), (41, .aload_n 0, 1, 0), (42, .getfield 21, 3, 0), (45, .iload_n 3, 1, 0), (46, .bipush 10, 2, 0)],
  [(48, .imul, 1, 0), (49, .iload 4, 2, 0), (51, .iadd, 1, 0), (52, .iaload, 1, 0), (53, .aload_n 0, 1, 0), (54, .getfield 21, 3, 0), (57, .iload 4, 2, 0), (59, .bipush 10, 2, 0), (61, .imul, 1, 0), (62, .iload 5, 2, 0)],
  [(64, .iadd, 1, 0), (65, .iaload, 1, 0), (66, .if_icmp .ge 7, 3, 73), (69, .iconst 1, 1, 0), (70, .goto 4, 3, 74), (73, .iconst 0, 1, 0), (74, .invokevirtual 47, 3, 0), (77, .iinc 5 1, 3, 0)],
  [(80, .goto (-51), 3, 29), (83, .iinc 4 1, 3, 0), (86, .goto (-69), 3, 17), (89, .iinc 3 1, 3, 0), (92, .goto (-85), 3, 7), (95, .return_, 1, 0)]]
set_option maxRecDepth 100000 in
theorem tX3_fill_ok : pt_ok YX3_fill.2.1 tX3_fill = true := by decide +kernel
theorem nX3_fill : (plainFor yX3_fill && decide (yX3_fill.cls = pt_own YX3_fill.1)) = true := by decide +kernel
abbrev YX3_find : pt_Y := (4, cX3_find, 4, (some .boolean), ({ frames := 4, cells := 0, slots := 0, locals := 97 } : Room))
def tX3_find : pt_B := [
  [(0, .aload_n 0, 1, 0), (1, .aload_n 1, 1, 0), (2, .getfield 51, 3, 0), (5, .invokevirtual 34, 3, 0), (8, .iconst 0, 1, 0), (9, .istore_n 2, 1, 0), (10, .iload_n 2, 1, 0), (11, .aload_n 1, 1, 0), (12, .getfield 51, 3, 0), (15, .invokestatic 30, 3, 0)],
  [(18, .if_icmp .ge 34, 3, 52), (21, .aload_n 0, 1, 0), (22, .aload_n 1, 1, 0), (23, .invokevirtual 54, 3, 0), (26, .istore_n 3, 1, 0), (27, .iload_n 3, 1, 0), (28, .iconst (-1), 1, 0), (29, .if_icmp .ne 5, 3, 34)],
  [(32, .iconst 0, 1, 0), (33, .ireturn, 1, 0), (34, .aload_n 0, 1, 0), (35, .getfield 9, 3, 0), (38, .iload_n 2, 1, 0), (39, .iload_n 3, 1, 0), (40, .iastore, 1, 0), (41, .aload_n 0, 1, 0), (42, .iload_n 3, 1, 0), (43, .invokevirtual 41, 3, 0), (46, .iinc 2 1, 3, 0)],
  [(49, .goto (-39), 3, 10), (52, .iconst 1, 1, 0), (53, .ireturn, 1, 0)]]
set_option maxRecDepth 100000 in
theorem tX3_find_ok : pt_ok YX3_find.2.1 tX3_find = true := by decide +kernel
theorem nX3_find : (plainFor yX3_find && decide (yX3_find.cls = pt_own YX3_find.1)) = true := by decide +kernel
abbrev YX3_begin : pt_Y := (4, cX3_begin, 3, none, ({ frames := 0, cells := 0, slots := 0, locals := 0 } : Room))
def tX3_begin : pt_B := [
  [(0, .iconst 0, 1, 0), (1, .istore_n 2, 1, 0), (2, .iload_n 2, 1, 0), (3, .iload_n 1, 1, 0), (4, .if_icmp .ge 23, 3, 27), (7, .aload_n 0, 1, 0), (8, .getfield 15, 3, 0), (11, .iload_n 2, 1, 0), (12, .iload_n 2, 1, 0), (13, .iastore, 1, 0), (14, .aload_n 0, 1, 0), (15, .getfield 18, 3, 0)],
  [(18, .iload_n 2, 1, 0), (19, .iconst 0, 1, 0), (20, .iastore, 1, 0), (21, .iinc 2 1, 3, 0), (24, .goto (-22), 3, 2), (27, .return_, 1, 0)]]
set_option maxRecDepth 100000 in
theorem tX3_begin_ok : pt_ok YX3_begin.2.1 tX3_begin = true := by decide +kernel
theorem nX3_begin : (plainFor yX3_begin && decide (yX3_begin.cls = pt_own YX3_begin.1)) = true := by decide +kernel
abbrev YX3_swapAt : pt_Y := (4, cX3_swapAt, 4, none, ({ frames := 0, cells := 0, slots := 0, locals := 0 } : Room))
def tX3_swapAt : pt_B := [
  [(0, .aload_n 0, 1, 0), (1, .getfield 15, 3, 0), (4, .iload_n 1, 1, 0), (5, .iaload, 1, 0), (6, .istore_n 2, 1, 0), (7, .aload_n 0, 1, 0), (8, .getfield 15, 3, 0), (11, .iload_n 1, 1, 0), (12, .iconst 1, 1, 0), (13, .iadd, 1, 0), (14, .iaload, 1, 0), (15, .istore_n 3, 1, 0)],
  [(16, .aload_n 0, 1, 0), (17, .getfield 18, 3, 0), (20, .iload_n 2, 1, 0), (21, .dup2, 1, 0), (22, .iaload, 1, 0), (23, .iconst 1, 1, 0), (24, .iload_n 3, 1, 0), (25, .ishl, 1, 0), (26, .ior, 1, 0), (27, .iastore, 1, 0), (28, .aload_n 0, 1, 0), (29, .getfield 18, 3, 0)],
  [(32, .iload_n 3, 1, 0), (33, .dup2, 1, 0), (34, .iaload, 1, 0), (35, .iconst 1, 1, 0), (36, .iload_n 2, 1, 0), (37, .ishl, 1, 0), (38, .ior, 1, 0), (39, .iastore, 1, 0), (40, .aload_n 0, 1, 0), (41, .getfield 15, 3, 0), (44, .iload_n 1, 1, 0), (45, .iload_n 3, 1, 0), (46, .iastore, 1, 0), (47, .aload_n 0, 1, 0)],
  [(48, .getfield 15, 3, 0), (51, .iload_n 1, 1, 0), (52, .iconst 1, 1, 0), (53, .iadd, 1, 0), (54, .iload_n 2, 1, 0), (55, .iastore, 1, 0), (56, .return_, 1, 0)]]
set_option maxRecDepth 100000 in
theorem tX3_swapAt_ok : pt_ok YX3_swapAt.2.1 tX3_swapAt = true := by decide +kernel
theorem nX3_swapAt : (plainFor yX3_swapAt && decide (yX3_swapAt.cls = pt_own YX3_swapAt.1)) = true := by decide +kernel
abbrev YX3_leastPlace : pt_Y := (4, cX3_leastPlace, 3, (some .int), ({ frames := 3, cells := 0, slots := 0, locals := 75 } : Room))
def tX3_leastPlace : pt_B := [
  [(0, .iconst 0, 1, 0), (1, .istore_n 2, 1, 0), (2, .iload_n 2, 1, 0), (3, .iconst 1, 1, 0), (4, .iadd, 1, 0), (5, .aload_n 1, 1, 0), (6, .getfield 51, 3, 0), (9, .if_icmp .ge 50, 3, 59), (12, .aload_n 0, 1, 0), (13, .getfield 15, 3, 0)],
  [(16, .iload_n 2, 1, 0), (17, .iaload, 1, 0), (18, .aload_n 0, 1, 0), (19, .getfield 15, 3, 0), (22, .iload_n 2, 1, 0), (23, .iconst 1, 1, 0), (24, .iadd, 1, 0), (25, .iaload, 1, 0), (26, .if_icmp .ge 27, 3, 53), (29, .aload_n 0, 1, 0), (30, .aload_n 1, 1, 0), (31, .aload_n 0, 1, 0)],
  [(32, .getfield 15, 3, 0), (35, .iload_n 2, 1, 0), (36, .iaload, 1, 0), (37, .aload_n 0, 1, 0), (38, .getfield 15, 3, 0), (41, .iload_n 2, 1, 0), (42, .iconst 1, 1, 0), (43, .iadd, 1, 0), (44, .iaload, 1, 0), (45, .invokevirtual 58, 3, 0)],
  [(48, .ifCond .eq 5, 3, 53), (51, .iload_n 2, 1, 0), (52, .ireturn, 1, 0), (53, .iinc 2 1, 3, 0), (56, .goto (-54), 3, 2), (59, .iconst (-1), 1, 0), (60, .ireturn, 1, 0)]]
set_option maxRecDepth 100000 in
theorem tX3_leastPlace_ok : pt_ok YX3_leastPlace.2.1 tX3_leastPlace = true := by decide +kernel
theorem nX3_leastPlace : (plainFor yX3_leastPlace && decide (yX3_leastPlace.cls = pt_own YX3_leastPlace.1)) = true := by decide +kernel
abbrev YX3_isDue : pt_Y := (4, cX3_isDue, 5, (some .boolean), ({ frames := 2, cells := 0, slots := 0, locals := 51 } : Room))
def tX3_isDue : pt_B := [
  [(0, .iconst 0, 1, 0), (1, .istore 4, 2, 0), (3, .iload 4, 2, 0), (5, .aload_n 1, 1, 0), (6, .getfield 51, 3, 0), (9, .if_icmp .ge 35, 3, 44), (12, .iload 4, 2, 0), (14, .iload_n 2, 1, 0), (15, .if_icmp .eq 23, 3, 38)],
  [(18, .iload 4, 2, 0), (20, .iload_n 3, 1, 0), (21, .if_icmp .eq 17, 3, 38), (24, .aload_n 0, 1, 0), (25, .aload_n 1, 1, 0), (26, .iload_n 2, 1, 0), (27, .iload_n 3, 1, 0), (28, .iload 4, 2, 0), (30, .invokevirtual 62, 3, 0)],
  [(33, .ifCond .ne 5, 3, 38), (36, .iconst 0, 1, 0), (37, .ireturn, 1, 0), (38, .iinc 4 1, 3, 0), (41, .goto (-38), 3, 3), (44, .iconst 1, 1, 0), (45, .ireturn, 1, 0)]]
set_option maxRecDepth 100000 in
theorem tX3_isDue_ok : pt_ok YX3_isDue.2.1 tX3_isDue = true := by decide +kernel
theorem nX3_isDue : (plainFor yX3_isDue && decide (yX3_isDue.cls = pt_own YX3_isDue.1)) = true := by decide +kernel
abbrev YX3_isDueWith : pt_Y := (4, cX3_isDueWith, 8, (some .boolean), ({ frames := 1, cells := 0, slots := 0, locals := 24 } : Room))
def tX3_isDueWith : pt_B := [
  [(0, .aload_n 0, 1, 0), (1, .iload_n 2, 1, 0), (2, .iload 4, 2, 0), (4, .invokevirtual 66, 3, 0), (7, .istore 5, 2, 0), (9, .aload_n 0, 1, 0), (10, .iload_n 3, 1, 0), (11, .iload 4, 2, 0), (13, .invokevirtual 66, 3, 0)],
  [(16, .istore 6, 2, 0), (18, .iload 4, 2, 0), (20, .iload_n 2, 1, 0), (21, .if_icmp .ge 33, 3, 54), (24, .aload_n 1, 1, 0), (25, .iload 4, 2, 0), (27, .iload_n 2, 1, 0), (28, .iload_n 3, 1, 0), (29, .invokevirtual 70, 3, 0)],
  [(32, .istore 7, 2, 0), (34, .iload 5, 2, 0), (36, .iload 7, 2, 0), (38, .if_icmp .ne 14, 3, 52), (41, .iload 6, 2, 0), (43, .iload 7, 2, 0), (45, .if_icmp .ne 7, 3, 52)],
  [(48, .iconst 1, 1, 0), (49, .goto 4, 3, 53), (52, .iconst 0, 1, 0), (53, .ireturn, 1, 0), (54, .iload 4, 2, 0), (56, .iload_n 3, 1, 0), (57, .if_icmp .ge 33, 3, 90), (60, .aload_n 1, 1, 0), (61, .iload_n 2, 1, 0), (62, .iload 4, 2, 0)],
  [(64, .iload_n 3, 1, 0), (65, .invokevirtual 70, 3, 0), (68, .istore 7, 2, 0), (70, .iload 5, 2, 0), (72, .iload 7, 2, 0), (74, .if_icmp .ne 14, 3, 88), (77, .iload 6, 2, 0), (79, .iload 7, 2, 0)],
  [(81, .if_icmp .eq 7, 3, 88), (84, .iconst 1, 1, 0), (85, .goto 4, 3, 89), (88, .iconst 0, 1, 0), (89, .ireturn, 1, 0), (90, .aload_n 1, 1, 0), (91, .iload_n 2, 1, 0), (92, .iload_n 3, 1, 0), (93, .iload 4, 2, 0), (95, .invokevirtual 70, 3, 0)],
  [(98, .istore 7, 2, 0), (100, .iload 5, 2, 0), (102, .iload 7, 2, 0), (104, .if_icmp .eq 14, 3, 118), (107, .iload 6, 2, 0), (109, .iload 7, 2, 0), (111, .if_icmp .eq 7, 3, 118)],
  [(114, .iconst 1, 1, 0), (115, .goto 4, 3, 119), (118, .iconst 0, 1, 0), (119, .ireturn, 1, 0)]]
set_option maxRecDepth 100000 in
theorem tX3_isDueWith_ok : pt_ok YX3_isDueWith.2.1 tX3_isDueWith = true := by decide +kernel
theorem nX3_isDueWith : (plainFor yX3_isDueWith && decide (yX3_isDueWith.cls = pt_own YX3_isDueWith.1)) = true := by decide +kernel
abbrev YX3_areSwapped : pt_Y := (4, cX3_areSwapped, 3, (some .boolean), ({ frames := 0, cells := 0, slots := 0, locals := 0 } : Room))
def tX3_areSwapped : pt_B := [
  [(0, .aload_n 0, 1, 0), (1, .getfield 18, 3, 0), (4, .iload_n 1, 1, 0), (5, .iaload, 1, 0), (6, .iload_n 2, 1, 0), (7, .ishr, 1, 0), (8, .iconst 1, 1, 0), (9, .iand, 1, 0), (10, .iconst 1, 1, 0), (11, .if_icmp .ne 7, 3, 18), (14, .iconst 1, 1, 0), (15, .goto 4, 3, 19)],
  [(18, .iconst 0, 1, 0), (19, .ireturn, 1, 0)]]
set_option maxRecDepth 100000 in
theorem tX3_areSwapped_ok : pt_ok YX3_areSwapped.2.1 tX3_areSwapped = true := by decide +kernel
theorem nX3_areSwapped : (plainFor yX3_areSwapped && decide (yX3_areSwapped.cls = pt_own YX3_areSwapped.1)) = true := by decide +kernel
abbrev YX4_begin : pt_Y := (1, cX4_begin, 2, none, ({ frames := 1, cells := 0, slots := 0, locals := 23 } : Room))
def tX4_begin : pt_B := [
  [(0, .aload_n 0, 1, 0), (1, .iload_n 1, 1, 0), (2, .putfield 9, 3, 0), (5, .aload_n 0, 1, 0), (6, .getfield 15, 3, 0), (9, .iconst 0, 1, 0), (10, .invokestatic 32, 3, 0), (13, .aload_n 0, 1, 0), (14, .invokevirtual 38, 3, 0)],
  [(17, .return_, 1, 0)]]
set_option maxRecDepth 100000 in
theorem tX4_begin_ok : pt_ok YX4_begin.2.1 tX4_begin = true := by decide +kernel
theorem nX4_begin : (plainFor yX4_begin && decide (yX4_begin.cls = pt_own YX4_begin.1)) = true := by decide +kernel
abbrev YX4_forget : pt_Y := (1, cX4_forget, 1, none, ({ frames := 0, cells := 0, slots := 0, locals := 0 } : Room))
def tX4_forget : pt_B := [
  [(0, .aload_n 0, 1, 0), (1, .bipush (-2), 2, 0), (3, .putfield 19, 3, 0), (6, .aload_n 0, 1, 0), (7, .iconst 0, 1, 0), (8, .putfield 22, 3, 0), (11, .return_, 1, 0)]]
set_option maxRecDepth 100000 in
theorem tX4_forget_ok : pt_ok YX4_forget.2.1 tX4_forget = true := by decide +kernel
theorem nX4_forget : (plainFor yX4_forget && decide (yX4_forget.cls = pt_own YX4_forget.1)) = true := by decide +kernel
abbrev YX4_everyPoint : pt_Y := (1, cX4_everyPoint, 1, (some .int), ({ frames := 0, cells := 0, slots := 0, locals := 0 } : Room))
def tX4_everyPoint : pt_B := [
  [(0, .iconst 1, 1, 0), (1, .aload_n 0, 1, 0), (2, .getfield 9, 3, 0), (5, .ishl, 1, 0), (6, .iconst 1, 1, 0), (7, .isub, 1, 0), (8, .ireturn, 1, 0)]]
set_option maxRecDepth 100000 in
theorem tX4_everyPoint_ok : pt_ok YX4_everyPoint.2.1 tX4_everyPoint = true := by decide +kernel
theorem nX4_everyPoint : (plainFor yX4_everyPoint && decide (yX4_everyPoint.cls = pt_own YX4_everyPoint.1)) = true := by decide +kernel
abbrev YX4_hasPoint : pt_Y := (1, cX4_hasPoint, 2, (some .boolean), ({ frames := 0, cells := 0, slots := 0, locals := 0 } : Room))
def tX4_hasPoint : pt_B := [
  [(0, .iload_n 1, 1, 0), (1, .ifCond .lt 15, 3, 16), (4, .iload_n 1, 1, 0), (5, .aload_n 0, 1, 0), (6, .getfield 9, 3, 0), (9, .if_icmp .ge 7, 3, 16), (12, .iconst 1, 1, 0), (13, .goto 4, 3, 17)],
  [(16, .iconst 0, 1, 0), (17, .ireturn, 1, 0)]]
set_option maxRecDepth 100000 in
theorem tX4_hasPoint_ok : pt_ok YX4_hasPoint.2.1 tX4_hasPoint = true := by decide +kernel
theorem nX4_hasPoint : (plainFor yX4_hasPoint && decide (yX4_hasPoint.cls = pt_own YX4_hasPoint.1)) = true := by decide +kernel
abbrev YX4_hasThree : pt_Y := (1, cX4_hasThree, 4, (some .boolean), ({ frames := 1, cells := 0, slots := 0, locals := 21 } : Room))
def tX4_hasThree : pt_B := [
  [(0, .aload_n 0, 1, 0), (1, .iload_n 1, 1, 0), (2, .invokevirtual 41, 3, 0), (5, .ifCond .eq 38, 3, 43), (8, .aload_n 0, 1, 0), (9, .iload_n 2, 1, 0), (10, .invokevirtual 41, 3, 0), (13, .ifCond .eq 30, 3, 43)],
  [(16, .aload_n 0, 1, 0), (17, .iload_n 3, 1, 0), (18, .invokevirtual 41, 3, 0), (21, .ifCond .eq 22, 3, 43), (24, .iload_n 1, 1, 0), (25, .iload_n 2, 1, 0), (26, .if_icmp .eq 17, 3, 43), (29, .iload_n 2, 1, 0), (30, .iload_n 3, 1, 0), (31, .if_icmp .eq 12, 3, 43)],
  [(34, .iload_n 3, 1, 0), (35, .iload_n 1, 1, 0), (36, .if_icmp .eq 7, 3, 43), (39, .iconst 1, 1, 0), (40, .goto 4, 3, 44), (43, .iconst 0, 1, 0), (44, .ireturn, 1, 0)]]
set_option maxRecDepth 100000 in
theorem tX4_hasThree_ok : pt_ok YX4_hasThree.2.1 tX4_hasThree = true := by decide +kernel
theorem nX4_hasThree : (plainFor yX4_hasThree && decide (yX4_hasThree.cls = pt_own YX4_hasThree.1)) = true := by decide +kernel
abbrev YX4_leftOf : pt_Y := (1, cX4_leftOf, 4, (some .int), ({ frames := 0, cells := 0, slots := 0, locals := 0 } : Room))
def tX4_leftOf : pt_B := [
  [(0, .iload_n 1, 1, 0), (1, .bipush 10, 2, 0), (3, .imul, 1, 0), (4, .iload_n 2, 1, 0), (5, .iadd, 1, 0), (6, .istore_n 3, 1, 0), (7, .iload_n 3, 1, 0), (8, .ifCond .lt 21, 3, 29), (11, .iload_n 3, 1, 0), (12, .aload_n 0, 1, 0), (13, .getfield 15, 3, 0)],
  [(16, .arraylength, 1, 0), (17, .if_icmp .ge 12, 3, 29), (20, .aload_n 0, 1, 0), (21, .getfield 15, 3, 0), (24, .iload_n 3, 1, 0), (25, .iaload, 1, 0), (26, .goto 4, 3, 30), (29, .iconst 0, 1, 0), (30, .ireturn, 1, 0)]]
set_option maxRecDepth 100000 in
theorem tX4_leftOf_ok : pt_ok YX4_leftOf.2.1 tX4_leftOf = true := by decide +kernel
theorem nX4_leftOf : (plainFor yX4_leftOf && decide (yX4_leftOf.cls = pt_own YX4_leftOf.1)) = true := by decide +kernel
abbrev YX4_isLeft : pt_Y := (1, cX4_isLeft, 5, (some .boolean), ({ frames := 0, cells := 0, slots := 0, locals := 0 } : Room))
def tX4_isLeft : pt_B := [
  [(0, .iload_n 1, 1, 0), (1, .bipush 10, 2, 0), (3, .imul, 1, 0), (4, .iload_n 2, 1, 0), (5, .iadd, 1, 0), (6, .istore 4, 2, 0), (8, .iload 4, 2, 0), (10, .ifCond .lt 32, 3, 42), (13, .iload 4, 2, 0), (15, .aload_n 0, 1, 0)],
  [(16, .getfield 15, 3, 0), (19, .arraylength, 1, 0), (20, .if_icmp .ge 22, 3, 42), (23, .aload_n 0, 1, 0), (24, .getfield 15, 3, 0), (27, .iload 4, 2, 0), (29, .iaload, 1, 0), (30, .iload_n 3, 1, 0), (31, .ishr, 1, 0)],
  [(32, .iconst 1, 1, 0), (33, .iand, 1, 0), (34, .iconst 1, 1, 0), (35, .if_icmp .ne 7, 3, 42), (38, .iconst 1, 1, 0), (39, .goto 4, 3, 43), (42, .iconst 0, 1, 0), (43, .ireturn, 1, 0)]]
set_option maxRecDepth 100000 in
theorem tX4_isLeft_ok : pt_ok YX4_isLeft.2.1 tX4_isLeft = true := by decide +kernel
theorem nX4_isLeft : (plainFor yX4_isLeft && decide (yX4_isLeft.cls = pt_own YX4_isLeft.1)) = true := by decide +kernel
abbrev YX4_put : pt_Y := (1, cX4_put, 5, none, ({ frames := 1, cells := 0, slots := 0, locals := 25 } : Room))
def tX4_put : pt_B := [
  [(0, .aload_n 0, 1, 0), (1, .iload_n 1, 1, 0), (2, .iload_n 2, 1, 0), (3, .iload_n 3, 1, 0), (4, .iload 4, 2, 0), (6, .invokevirtual 45, 3, 0), (9, .aload_n 0, 1, 0), (10, .iload_n 2, 1, 0), (11, .iload_n 3, 1, 0), (12, .iload_n 1, 1, 0), (13, .iload 4, 2, 0), (15, .invokevirtual 45, 3, 0)],
  [(18, .aload_n 0, 1, 0), (19, .iload_n 3, 1, 0), (20, .iload_n 1, 1, 0), (21, .iload_n 2, 1, 0), (22, .iload 4, 2, 0), (24, .invokevirtual 45, 3, 0), (27, .aload_n 0, 1, 0), (28, .iload_n 2, 1, 0), (29, .iload_n 1, 1, 0), (30, .iload_n 3, 1, 0), (31, .iload 4, 2, 0)],
  [(33, .ifCond .ne 7, 3, 40), (36, .iconst 1, 1, 0), (37, .goto 4, 3, 41), (40, .iconst 0, 1, 0), (41, .invokevirtual 45, 3, 0), (44, .aload_n 0, 1, 0), (45, .iload_n 3, 1, 0), (46, .iload_n 2, 1, 0), (47, .iload_n 1, 1, 0)],
  [(48, .iload 4, 2, 0), (50, .ifCond .ne 7, 3, 57), (53, .iconst 1, 1, 0), (54, .goto 4, 3, 58), (57, .iconst 0, 1, 0), (58, .invokevirtual 45, 3, 0), (61, .aload_n 0, 1, 0), (62, .iload_n 1, 1, 0), (63, .iload_n 3, 1, 0)],
  [(64, .iload_n 2, 1, 0), (65, .iload 4, 2, 0), (67, .ifCond .ne 7, 3, 74), (70, .iconst 1, 1, 0), (71, .goto 4, 3, 75), (74, .iconst 0, 1, 0), (75, .invokevirtual 45, 3, 0), (78, .return_, 1, 0)]]
set_option maxRecDepth 100000 in
theorem tX4_put_ok : pt_ok YX4_put.2.1 tX4_put = true := by decide +kernel
theorem nX4_put : (plainFor yX4_put && decide (yX4_put.cls = pt_own YX4_put.1)) = true := by decide +kernel
abbrev YX4_putOne : pt_Y := (1, cX4_putOne, 6, none, ({ frames := 0, cells := 0, slots := 0, locals := 0 } : Room))
def tX4_putOne : pt_B := [
  [(0, .iload_n 1, 1, 0), (1, .bipush 10, 2, 0), (3, .imul, 1, 0), (4, .iload_n 2, 1, 0), (5, .iadd, 1, 0), (6, .istore 5, 2, 0), (8, .iload 5, 2, 0), (10, .ifCond .lt 13, 3, 23), (13, .iload 5, 2, 0), (15, .aload_n 0, 1, 0)],
  [(16, .getfield 15, 3, 0), (19, .arraylength, 1, 0), (20, .if_icmp .lt 4, 3, 24), (23, .return_, 1, 0), (24, .iload 4, 2, 0), (26, .ifCond .eq 19, 3, 45), (29, .aload_n 0, 1, 0), (30, .getfield 15, 3, 0)],
  [(33, .iload 5, 2, 0), (35, .dup2, 1, 0), (36, .iaload, 1, 0), (37, .iconst 1, 1, 0), (38, .iload_n 3, 1, 0), (39, .ishl, 1, 0), (40, .ior, 1, 0), (41, .iastore, 1, 0), (42, .goto 18, 3, 60), (45, .aload_n 0, 1, 0), (46, .getfield 15, 3, 0)],
  [(49, .iload 5, 2, 0), (51, .dup2, 1, 0), (52, .iaload, 1, 0), (53, .iconst 1, 1, 0), (54, .iload_n 3, 1, 0), (55, .ishl, 1, 0), (56, .iconst (-1), 1, 0), (57, .ixor, 1, 0), (58, .iand, 1, 0), (59, .iastore, 1, 0), (60, .return_, 1, 0)]]
set_option maxRecDepth 100000 in
theorem tX4_putOne_ok : pt_ok YX4_putOne.2.1 tX4_putOne = true := by decide +kernel
theorem nX4_putOne : (plainFor yX4_putOne && decide (yX4_putOne.cls = pt_own YX4_putOne.1)) = true := by decide +kernel
abbrev YX4_takeRow : pt_Y := (1, cX4_takeRow, 7, none, ({ frames := 2, cells := 0, slots := 0, locals := 49 } : Room))
def tX4_takeRow : pt_B := [
  [(0, .aload_n 0, 1, 0), (1, .iload_n 1, 1, 0), (2, .invokevirtual 49, 3, 0), (5, .iconst 0, 1, 0), (6, .istore_n 3, 1, 0), (7, .iconst 0, 1, 0), (8, .istore 4, 2, 0), (10, .iload 4, 2, 0), (12, .iload_n 1, 1, 0), (13, .if_icmp .ge 76, 3, 89)],
  [(16, .iload 4, 2, 0), (18, .iconst 1, 1, 0), (19, .iadd, 1, 0), (20, .istore 5, 2, 0), (22, .iload 5, 2, 0), (24, .iload_n 1, 1, 0), (25, .if_icmp .ge 58, 3, 83), (28, .iload 5, 2, 0), (30, .iconst 1, 1, 0), (31, .iadd, 1, 0)],
  [(32, .istore 6, 2, 0), (34, .iload 6, 2, 0), (36, .iload_n 1, 1, 0), (37, .if_icmp .ge 40, 3, 77), (40, .iload_n 3, 1, 0), (41, .aload_n 2, 1, 0), (42, .arraylength, 1, 0), (43, .if_icmp .ge 34, 3, 77), (46, .aload_n 0, 1, 0), (47, .iload 4, 2, 0)],
  [(49, .iload 5, 2, 0), (51, .iload 6, 2, 0), (53, .aload_n 2, 1, 0), (54, .iload_n 3, 1, 0), (55, .iaload, 1, 0), (56, .iconst 1, 1, 0), (57, .if_icmp .ne 7, 3, 64), (60, .iconst 1, 1, 0), (61, .goto 4, 3, 65)],
  [(64, .iconst 0, 1, 0), (65, .invokevirtual 53, 3, 0), (68, .iinc 3 1, 3, 0), (71, .iinc 6 1, 3, 0), (74, .goto (-40), 3, 34), (77, .iinc 5 1, 3, 0)],
  [(80, .goto (-58), 3, 22), (83, .iinc 4 1, 3, 0), (86, .goto (-76), 3, 10), (89, .return_, 1, 0)]]
set_option maxRecDepth 100000 in
theorem tX4_takeRow_ok : pt_ok YX4_takeRow.2.1 tX4_takeRow = true := by decide +kernel
theorem nX4_takeRow : (plainFor yX4_takeRow && decide (yX4_takeRow.cls = pt_own YX4_takeRow.1)) = true := by decide +kernel
abbrev YX4_takeTurns : pt_Y := (1, cX4_takeTurns, 9, none, ({ frames := 2, cells := 0, slots := 0, locals := 49 } : Room))
def tX4_takeTurns : pt_B := [
  [(0, .aload_n 0, 1, 0), (1, .iload_n 3, 1, 0), (2, .invokevirtual 49, 3, 0), (5, .iconst 0, 1, 0), (6, .istore 5, 2, 0), (8, .iload 5, 2, 0), (10, .iload_n 3, 1, 0), (11, .if_icmp .ge 92, 3, 103), (14, .iload 5, 2, 0)],
  [(16, .iconst 1, 1, 0), (17, .iadd, 1, 0), (18, .istore 6, 2, 0), (20, .iload 6, 2, 0), (22, .iload_n 3, 1, 0), (23, .if_icmp .ge 74, 3, 97), (26, .iload 6, 2, 0), (28, .iconst 1, 1, 0), (29, .iadd, 1, 0), (30, .istore 7, 2, 0)],
  [(32, .iload 7, 2, 0), (34, .iload_n 3, 1, 0), (35, .if_icmp .ge 56, 3, 91), (38, .iload 7, 2, 0), (40, .aload_n 2, 1, 0), (41, .arraylength, 1, 0), (42, .if_icmp .ge 49, 3, 91), (45, .aload_n 1, 1, 0), (46, .aload_n 2, 1, 0), (47, .iload 5, 2, 0)],
  [(49, .iaload, 1, 0), (50, .aload_n 2, 1, 0), (51, .iload 6, 2, 0), (53, .iaload, 1, 0), (54, .aload_n 2, 1, 0), (55, .iload 7, 2, 0), (57, .iaload, 1, 0), (58, .invokevirtual 56, 3, 0), (61, .istore 8, 2, 0), (63, .aload_n 0, 1, 0)],
  [(64, .iload 5, 2, 0), (66, .iload 6, 2, 0), (68, .iload 7, 2, 0), (70, .iload 8, 2, 0), (72, .iload 4, 2, 0), (74, .if_icmp .eq 7, 3, 81), (77, .iconst 1, 1, 0), (78, .goto 4, 3, 82)],
  [(81, .iconst 0, 1, 0), (82, .invokevirtual 53, 3, 0), (85, .iinc 7 1, 3, 0), (88, .goto (-56), 3, 32), (91, .iinc 6 1, 3, 0), (94, .goto (-74), 3, 20)],
  [(97, .iinc 5 1, 3, 0), (100, .goto (-92), 3, 8), (103, .return_, 1, 0)]]
set_option maxRecDepth 100000 in
theorem tX4_takeTurns_ok : pt_ok YX4_takeTurns.2.1 tX4_takeTurns = true := by decide +kernel
theorem nX4_takeTurns : (plainFor yX4_takeTurns && decide (yX4_takeTurns.cls = pt_own YX4_takeTurns.1)) = true := by decide +kernel
abbrev YX5_addNumber : pt_Y := (2, cX5_addNumber, 3, none, ({ frames := 0, cells := 0, slots := 0, locals := 0 } : Room))
def tX5_addNumber : pt_B := [
  [(0, .bipush 24, 2, 0), (2, .istore_n 2, 1, 0), (3, .iload_n 2, 1, 0), (4, .ifCond .lt 45, 3, 49), (7, .aload_n 0, 1, 0), (8, .getfield 15, 3, 0), (11, .sipush 140, 3, 0), (14, .if_icmp .ge 35, 3, 49)],
  [(17, .aload_n 0, 1, 0), (18, .getfield 9, 3, 0), (21, .aload_n 0, 1, 0), (22, .getfield 15, 3, 0), (25, .iload_n 1, 1, 0), (26, .iload_n 2, 1, 0), (27, .iushr, 1, 0), (28, .sipush 255, 3, 0), (31, .iand, 1, 0)],
  [(32, .iastore, 1, 0), (33, .aload_n 0, 1, 0), (34, .dup, 1, 0), (35, .getfield 15, 3, 0), (38, .iconst 1, 1, 0), (39, .iadd, 1, 0), (40, .putfield 15, 3, 0), (43, .iinc 2 (-8), 3, 0), (46, .goto (-43), 3, 3)],
  [(49, .return_, 1, 0)]]
set_option maxRecDepth 100000 in
theorem tX5_addNumber_ok : pt_ok YX5_addNumber.2.1 tX5_addNumber = true := by decide +kernel
theorem nX5_addNumber : (plainFor yX5_addNumber && decide (yX5_addNumber.cls = pt_own YX5_addNumber.1)) = true := by decide +kernel
abbrev YX5_byteAt : pt_Y := (2, cX5_byteAt, 2, (some .int), ({ frames := 0, cells := 0, slots := 0, locals := 0 } : Room))
def tX5_byteAt : pt_B := [
  [(0, .iload_n 1, 1, 0), (1, .ifCond .lt 20, 3, 21), (4, .iload_n 1, 1, 0), (5, .aload_n 0, 1, 0), (6, .getfield 15, 3, 0), (9, .if_icmp .ge 12, 3, 21), (12, .aload_n 0, 1, 0), (13, .getfield 9, 3, 0)],
  [(16, .iload_n 1, 1, 0), (17, .iaload, 1, 0), (18, .goto 4, 3, 22), (21, .iconst (-1), 1, 0), (22, .ireturn, 1, 0)]]
set_option maxRecDepth 100000 in
theorem tX5_byteAt_ok : pt_ok YX5_byteAt.2.1 tX5_byteAt = true := by decide +kernel
theorem nX5_byteAt : (plainFor yX5_byteAt && decide (yX5_byteAt.cls = pt_own YX5_byteAt.1)) = true := by decide +kernel
abbrev YX5_shortAt : pt_Y := (2, cX5_shortAt, 2, (some .int), ({ frames := 1, cells := 0, slots := 0, locals := 21 } : Room))
def tX5_shortAt : pt_B := [
  [(0, .aload_n 0, 1, 0), (1, .iload_n 1, 1, 0), (2, .invokevirtual 19, 3, 0), (5, .bipush 8, 2, 0), (7, .ishl, 1, 0), (8, .aload_n 0, 1, 0), (9, .iload_n 1, 1, 0), (10, .iconst 1, 1, 0), (11, .iadd, 1, 0), (12, .invokevirtual 19, 3, 0), (15, .ior, 1, 0)],
  [(16, .i2s, 1, 0), (17, .ireturn, 1, 0)]]
set_option maxRecDepth 100000 in
theorem tX5_shortAt_ok : pt_ok YX5_shortAt.2.1 tX5_shortAt = true := by decide +kernel
theorem nX5_shortAt : (plainFor yX5_shortAt && decide (yX5_shortAt.cls = pt_own YX5_shortAt.1)) = true := by decide +kernel
abbrev YX5_hasBit : pt_Y := (2, cX5_hasBit, 2, (some .boolean), ({ frames := 1, cells := 0, slots := 0, locals := 21 } : Room))
def tX5_hasBit : pt_B := [
  [(0, .aload_n 0, 1, 0), (1, .iload_n 1, 1, 0), (2, .bipush 8, 2, 0), (4, .idiv, 1, 0), (5, .invokevirtual 19, 3, 0), (8, .bipush 7, 2, 0), (10, .iload_n 1, 1, 0), (11, .bipush 8, 2, 0), (13, .irem, 1, 0), (14, .isub, 1, 0), (15, .ishr, 1, 0)],
  [(16, .iconst 1, 1, 0), (17, .iand, 1, 0), (18, .iconst 1, 1, 0), (19, .if_icmp .ne 7, 3, 26), (22, .iconst 1, 1, 0), (23, .goto 4, 3, 27), (26, .iconst 0, 1, 0), (27, .ireturn, 1, 0)]]
set_option maxRecDepth 100000 in
theorem tX5_hasBit_ok : pt_ok YX5_hasBit.2.1 tX5_hasBit = true := by decide +kernel
theorem nX5_hasBit : (plainFor yX5_hasBit && decide (yX5_hasBit.cls = pt_own YX5_hasBit.1)) = true := by decide +kernel
abbrev YJ6_compare_7cf53 : pt_Y := (9, cJ6_compare_7cf53, 2, (some .int), ({ frames := 0, cells := 0, slots := 0, locals := 0 } : Room))
def tJ6_compare_7cf53 : pt_B := [
  [(0, .iload_n 0, 1, 0), (1, .iload_n 1, 1, 0), (2, .if_icmp .ge 7, 3, 9), (5, .iconst (-1), 1, 0), (6, .goto 13, 3, 19), (9, .iload_n 0, 1, 0), (10, .iload_n 1, 1, 0), (11, .if_icmp .ne 7, 3, 18), (14, .iconst 0, 1, 0), (15, .goto 4, 3, 19)],
  [(18, .iconst 1, 1, 0), (19, .ireturn, 1, 0)]]
set_option maxRecDepth 100000 in
theorem tJ6_compare_7cf53_ok : pt_ok YJ6_compare_7cf53.2.1 tJ6_compare_7cf53 = true := by decide +kernel
theorem nJ6_compare_7cf53 : (plainFor yJ6_compare_7cf53 && decide (yJ6_compare_7cf53.cls = pt_own YJ6_compare_7cf53.1)) = true := by decide +kernel
abbrev YJ6_bitCount_0f7a4 : pt_Y := (9, cJ6_bitCount_0f7a4, 1, (some .int), ({ frames := 0, cells := 0, slots := 0, locals := 0 } : Room))
def tJ6_bitCount_0f7a4 : pt_B := [
  [(0, .iload_n 0, 1, 0), (1, .iload_n 0, 1, 0), (2, .iconst 1, 1, 0), (3, .iushr, 1, 0), (4, .ldc_w 265, 3, 0), (7, .iand, 1, 0), (8, .isub, 1, 0), (9, .istore_n 0, 1, 0), (10, .iload_n 0, 1, 0), (11, .ldc_w 266, 3, 0), (14, .iand, 1, 0), (15, .iload_n 0, 1, 0)],
  [(16, .iconst 2, 1, 0), (17, .iushr, 1, 0), (18, .ldc_w 266, 3, 0), (21, .iand, 1, 0), (22, .iadd, 1, 0), (23, .istore_n 0, 1, 0), (24, .iload_n 0, 1, 0), (25, .iload_n 0, 1, 0), (26, .iconst 4, 1, 0), (27, .iushr, 1, 0), (28, .iadd, 1, 0), (29, .ldc_w 267, 3, 0)],
  [(32, .iand, 1, 0), (33, .istore_n 0, 1, 0), (34, .iload_n 0, 1, 0), (35, .iload_n 0, 1, 0), (36, .bipush 8, 2, 0), (38, .iushr, 1, 0), (39, .iadd, 1, 0), (40, .istore_n 0, 1, 0), (41, .iload_n 0, 1, 0), (42, .iload_n 0, 1, 0), (43, .bipush 16, 2, 0), (45, .iushr, 1, 0), (46, .iadd, 1, 0), (47, .istore_n 0, 1, 0)],
  [(48, .iload_n 0, 1, 0), (49, .bipush 63, 2, 0), (51, .iand, 1, 0), (52, .ireturn, 1, 0)]]
set_option maxRecDepth 100000 in
theorem tJ6_bitCount_0f7a4_ok : pt_ok YJ6_bitCount_0f7a4.2.1 tJ6_bitCount_0f7a4 = true := by decide +kernel
theorem nJ6_bitCount_0f7a4 : (plainFor yJ6_bitCount_0f7a4 && decide (yJ6_bitCount_0f7a4.cls = pt_own YJ6_bitCount_0f7a4.1)) = true := by decide +kernel
abbrev YJ9_abs_0f7a4 : pt_Y := (10, cJ9_abs_0f7a4, 1, (some .int), ({ frames := 0, cells := 0, slots := 0, locals := 0 } : Room))
def tJ9_abs_0f7a4 : pt_B := [
  [(0, .iload_n 0, 1, 0), (1, .ifCond .ge 8, 3, 9), (4, .iload_n 0, 1, 0), (5, .ineg, 1, 0), (6, .goto 4, 3, 10), (9, .iload_n 0, 1, 0), (10, .ireturn, 1, 0)]]
set_option maxRecDepth 100000 in
theorem tJ9_abs_0f7a4_ok : pt_ok YJ9_abs_0f7a4.2.1 tJ9_abs_0f7a4 = true := by decide +kernel
theorem nJ9_abs_0f7a4 : (plainFor yJ9_abs_0f7a4 && decide (yJ9_abs_0f7a4.cls = pt_own YJ9_abs_0f7a4.1)) = true := by decide +kernel
abbrev YJ9_min_7cf53 : pt_Y := (10, cJ9_min_7cf53, 2, (some .int), ({ frames := 0, cells := 0, slots := 0, locals := 0 } : Room))
def tJ9_min_7cf53 : pt_B := [
  [(0, .iload_n 0, 1, 0), (1, .iload_n 1, 1, 0), (2, .if_icmp .gt 7, 3, 9), (5, .iload_n 0, 1, 0), (6, .goto 4, 3, 10), (9, .iload_n 1, 1, 0), (10, .ireturn, 1, 0)]]
set_option maxRecDepth 100000 in
theorem tJ9_min_7cf53_ok : pt_ok YJ9_min_7cf53.2.1 tJ9_min_7cf53 = true := by decide +kernel
theorem nJ9_min_7cf53 : (plainFor yJ9_min_7cf53 && decide (yJ9_min_7cf53.cls = pt_own YJ9_min_7cf53.1)) = true := by decide +kernel
abbrev YJ7_fill_53178 : pt_Y := (11, cJ7_fill_53178, 4, none, ({ frames := 0, cells := 0, slots := 0, locals := 0 } : Room))
def tJ7_fill_53178 : pt_B := [
  [(0, .iconst 0, 1, 0), (1, .istore_n 2, 1, 0), (2, .aload_n 0, 1, 0), (3, .arraylength, 1, 0), (4, .istore_n 3, 1, 0), (5, .iload_n 2, 1, 0), (6, .iload_n 3, 1, 0), (7, .if_icmp .ge 13, 3, 20), (10, .aload_n 0, 1, 0), (11, .iload_n 2, 1, 0), (12, .iload_n 1, 1, 0), (13, .iastore, 1, 0), (14, .iinc 2 1, 3, 0)],
  [(17, .goto (-12), 3, 5), (20, .return_, 1, 0)]]
set_option maxRecDepth 100000 in
theorem tJ7_fill_53178_ok : pt_ok YJ7_fill_53178.2.1 tJ7_fill_53178 = true := by decide +kernel
theorem nJ7_fill_53178 : (plainFor yJ7_fill_53178 && decide (yJ7_fill_53178.cls = pt_own YJ7_fill_53178.1)) = true := by decide +kernel

/-- Ring_guardOf -/
def xi_k51 : List (Nat × Instr × Nat) := [(0, .aload_n 0, 1), (1, .getfield 15, 3), (4, .iload_n 1, 1), (5, .iaload, 1), (6, .iconst 1, 1), (7, .isub, 1), (8, .istore_n 2, 1), (9, .iconst 0, 1), (10, .istore_n 3, 1), (11, .iload_n 3, 1), (12, .iload_n 2, 1), (13, .if_icmp .gt 34, 3), (16, .aload_n 0, 1), (17, .getfield 18, 3), (20, .iload_n 1, 1), (21, .iaload, 1), (22, .iload_n 2, 1), (23, .iload_n 3, 1), (24, .isub, 1), (25, .ishr, 1), (26, .iconst 1, 1), (27, .iand, 1), (28, .aload_n 0, 1), (29, .getfield 18, 3), (32, .iload_n 1, 1), (33, .iaload, 1), (34, .iload_n 2, 1), (35, .ishr, 1), (36, .iconst 1, 1), (37, .iand, 1), (38, .if_icmp .ne 9, 3), (41, .iinc 3 1, 3), (44, .goto (-33), 3), (47, .iload_n 3, 1), (48, .ireturn, 1)]
set_option maxRecDepth 20000 in
theorem xi_k51_ok : ∀ e ∈ xi_k51, decode prog_6_method_7_code e.1 = .ok e.2 := by decide +kernel
/-- Ring_bring -/
def xi_k52 : List (Nat × Instr × Nat) := [(0, .aload_n 0, 1), (1, .iload_n 2, 1), (2, .iload 4, 2), (4, .invokevirtual 62, 3), (7, .aload_n 0, 1), (8, .getfield 18, 3), (11, .iload_n 1, 1), (12, .iaload, 1), (13, .aload_n 0, 1), (14, .getfield 15, 3), (17, .iload_n 1, 1), (18, .iaload, 1), (19, .iload_n 3, 1), (20, .isub, 1), (21, .ishr, 1), (22, .istore 5, 2), (24, .aload_n 0, 1), (25, .iload_n 1, 1), (26, .iload_n 3, 1), (27, .invokevirtual 62, 3), (30, .aload_n 0, 1), (31, .iload_n 2, 1), (32, .iload 5, 2), (34, .iload_n 3, 1), (35, .invokevirtual 66, 3), (38, .aload_n 0, 1), (39, .iload_n 2, 1), (40, .invokevirtual 70, 3), (43, .ireturn, 1)]
set_option maxRecDepth 20000 in
theorem xi_k52_ok : ∀ e ∈ xi_k52, decode prog_6_method_22_code e.1 = .ok e.2 := by decide +kernel
/-- Ring_takeUppermost -/
def xi_k53 : List (Nat × Instr × Nat) := [(0, .aload_n 0, 1), (1, .getfield 15, 3), (4, .iload_n 1, 1), (5, .dup2, 1), (6, .iaload, 1), (7, .iload_n 2, 1), (8, .isub, 1), (9, .iastore, 1), (10, .aload_n 0, 1), (11, .getfield 18, 3), (14, .iload_n 1, 1), (15, .dup2, 1), (16, .iaload, 1), (17, .iconst 1, 1), (18, .aload_n 0, 1), (19, .getfield 15, 3), (22, .iload_n 1, 1), (23, .iaload, 1), (24, .ishl, 1), (25, .iconst 1, 1), (26, .isub, 1), (27, .iand, 1), (28, .iastore, 1), (29, .return_, 1)]
set_option maxRecDepth 20000 in
theorem xi_k53_ok : ∀ e ∈ xi_k53, decode prog_6_method_23_code e.1 = .ok e.2 := by decide +kernel
/-- Ring_settle -/
def xi_k54 : List (Nat × Instr × Nat) := [(0, .iload_n 1, 1), (1, .istore_n 2, 1), (2, .iconst 0, 1), (3, .istore_n 3, 1), (4, .iload_n 3, 1), (5, .aload_n 0, 1), (6, .getfield 25, 3), (9, .if_icmp .ge 127, 3), (12, .aload_n 0, 1), (13, .getfield 15, 3), (16, .iload_n 2, 1), (17, .iaload, 1), (18, .aload_n 0, 1), (19, .getfield 9, 3), (22, .iload_n 2, 1), (23, .iaload, 1), (24, .if_icmp .le 112, 3), (27, .aload_n 0, 1), (28, .getfield 15, 3), (31, .iload_n 2, 1), (32, .iaload, 1), (33, .aload_n 0, 1), (34, .getfield 9, 3), (37, .iload_n 2, 1), (38, .iaload, 1), (39, .isub, 1), (40, .istore 4, 2), (42, .iload_n 2, 1), (43, .iconst 1, 1), (44, .iadd, 1), (45, .aload_n 0, 1), (46, .getfield 25, 3), (49, .if_icmp .ge 9, 3), (52, .iload_n 2, 1), (53, .iconst 1, 1), (54, .iadd, 1), (55, .goto 4, 3), (58, .iconst 0, 1), (59, .istore 5, 2), (61, .aload_n 0, 1), (62, .getfield 18, 3), (65, .iload 5, 2), (67, .dup2, 1), (68, .iaload, 1), (69, .aload_n 0, 1), (70, .getfield 18, 3), (73, .iload_n 2, 1), (74, .iaload, 1), (75, .iconst 1, 1), (76, .iload 4, 2), (78, .ishl, 1), (79, .iconst 1, 1), (80, .isub, 1), (81, .iand, 1), (82, .aload_n 0, 1), (83, .getfield 15, 3), (86, .iload 5, 2), (88, .iaload, 1), (89, .ishl, 1), (90, .ior, 1), (91, .iastore, 1), (92, .aload_n 0, 1), (93, .getfield 15, 3), (96, .iload 5, 2), (98, .dup2, 1), (99, .iaload, 1), (100, .iload 4, 2), (102, .iadd, 1), (103, .iastore, 1), (104, .aload_n 0, 1), (105, .getfield 18, 3), (108, .iload_n 2, 1), (109, .dup2, 1), (110, .iaload, 1), (111, .iload 4, 2), (113, .ishr, 1), (114, .iastore, 1), (115, .aload_n 0, 1), (116, .getfield 15, 3), (119, .iload_n 2, 1), (120, .aload_n 0, 1), (121, .getfield 9, 3), (124, .iload_n 2, 1), (125, .iaload, 1), (126, .iastore, 1), (127, .iload 5, 2), (129, .istore_n 2, 1), (130, .iinc 3 1, 3), (133, .goto (-129), 3), (136, .iload_n 3, 1), (137, .ireturn, 1)]
set_option maxRecDepth 20000 in
theorem xi_k54_ok : ∀ e ∈ xi_k54, decode prog_6_method_26_code e.1 = .ok e.2 := by decide +kernel
/-- Ring_rotate -/
def xi_k55 : List (Nat × Instr × Nat) := [(0, .aload_n 0, 1), (1, .getfield 9, 3), (4, .aload_n 0, 1), (5, .getfield 25, 3), (8, .iconst 1, 1), (9, .isub, 1), (10, .iaload, 1), (11, .istore_n 1, 1), (12, .aload_n 0, 1), (13, .getfield 25, 3), (16, .iconst 1, 1), (17, .isub, 1), (18, .istore_n 2, 1), (19, .iload_n 2, 1), (20, .ifCond .le 23, 3), (23, .aload_n 0, 1), (24, .getfield 9, 3), (27, .iload_n 2, 1), (28, .aload_n 0, 1), (29, .getfield 9, 3), (32, .iload_n 2, 1), (33, .iconst 1, 1), (34, .isub, 1), (35, .iaload, 1), (36, .iastore, 1), (37, .iinc 2 (-1), 3), (40, .goto (-21), 3), (43, .aload_n 0, 1), (44, .getfield 9, 3), (47, .iconst 0, 1), (48, .iload_n 1, 1), (49, .iastore, 1), (50, .iconst 0, 1), (51, .istore_n 2, 1), (52, .iload_n 2, 1), (53, .aload_n 0, 1), (54, .getfield 25, 3), (57, .if_icmp .ge 15, 3), (60, .aload_n 0, 1), (61, .iload_n 2, 1), (62, .invokevirtual 70, 3), (65, .pop, 1), (66, .iinc 2 1, 3), (69, .goto (-17), 3), (72, .return_, 1)]
set_option maxRecDepth 20000 in
theorem xi_k55_ok : ∀ e ∈ xi_k55, decode prog_6_method_27_code e.1 = .ok e.2 := by decide +kernel
/-- Ring_countOtherHeights -/
def xi_k56 : List (Nat × Instr × Nat) := [(0, .iconst 0, 1), (1, .istore_n 2, 1), (2, .iconst 0, 1), (3, .istore_n 3, 1), (4, .iload_n 3, 1), (5, .aload_n 0, 1), (6, .getfield 25, 3), (9, .if_icmp .ge 27, 3), (12, .aload_n 0, 1), (13, .getfield 15, 3), (16, .iload_n 3, 1), (17, .iaload, 1), (18, .aload_n 1, 1), (19, .getfield 15, 3), (22, .iload_n 3, 1), (23, .iaload, 1), (24, .if_icmp .eq 6, 3), (27, .iinc 2 1, 3), (30, .iinc 3 1, 3), (33, .goto (-29), 3), (36, .iload_n 2, 1), (37, .ireturn, 1)]
set_option maxRecDepth 20000 in
theorem xi_k56_ok : ∀ e ∈ xi_k56, decode prog_6_method_18_code e.1 = .ok e.2 := by decide +kernel
/-- Ring_countPieces -/
def xi_k57 : List (Nat × Instr × Nat) := [(0, .iconst 0, 1), (1, .istore_n 1, 1), (2, .iconst 0, 1), (3, .istore_n 2, 1), (4, .iload_n 2, 1), (5, .aload_n 0, 1), (6, .getfield 25, 3), (9, .if_icmp .ge 18, 3), (12, .iload_n 1, 1), (13, .aload_n 0, 1), (14, .getfield 15, 3), (17, .iload_n 2, 1), (18, .iaload, 1), (19, .iadd, 1), (20, .istore_n 1, 1), (21, .iinc 2 1, 3), (24, .goto (-20), 3), (27, .iload_n 1, 1), (28, .ireturn, 1)]
set_option maxRecDepth 20000 in
theorem xi_k57_ok : ∀ e ∈ xi_k57, decode prog_6_method_10_code e.1 = .ok e.2 := by decide +kernel
/-- Ring_countControlled -/
def xi_k58 : List (Nat × Instr × Nat) := [(0, .iconst 0, 1), (1, .istore_n 2, 1), (2, .iconst 0, 1), (3, .istore_n 3, 1), (4, .iload_n 3, 1), (5, .aload_n 0, 1), (6, .getfield 25, 3), (9, .if_icmp .ge 21, 3), (12, .aload_n 0, 1), (13, .iload_n 3, 1), (14, .invokevirtual 45, 3), (17, .iload_n 1, 1), (18, .if_icmp .ne 6, 3), (21, .iinc 2 1, 3), (24, .iinc 3 1, 3), (27, .goto (-23), 3), (30, .iload_n 2, 1), (31, .ireturn, 1)]
set_option maxRecDepth 20000 in
theorem xi_k58_ok : ∀ e ∈ xi_k58, decode prog_6_method_11_code e.1 = .ok e.2 := by decide +kernel
/-- Ring_greatestHeight -/
def xi_k59 : List (Nat × Instr × Nat) := [(0, .iconst 0, 1), (1, .istore_n 1, 1), (2, .iconst 0, 1), (3, .istore_n 2, 1), (4, .iload_n 2, 1), (5, .aload_n 0, 1), (6, .getfield 25, 3), (9, .if_icmp .ge 20, 3), (12, .iload_n 1, 1), (13, .aload_n 0, 1), (14, .getfield 15, 3), (17, .iload_n 2, 1), (18, .iaload, 1), (19, .invokestatic 48, 3), (22, .istore_n 1, 1), (23, .iinc 2 1, 3), (26, .goto (-22), 3), (29, .iload_n 1, 1), (30, .ireturn, 1)]
set_option maxRecDepth 20000 in
theorem xi_k59_ok : ∀ e ∈ xi_k59, decode prog_6_method_14_code e.1 = .ok e.2 := by decide +kernel
/-- Ring_sumOfCaps -/
def xi_k60 : List (Nat × Instr × Nat) := [(0, .iconst 0, 1), (1, .istore_n 1, 1), (2, .iconst 0, 1), (3, .istore_n 2, 1), (4, .iload_n 2, 1), (5, .aload_n 0, 1), (6, .getfield 25, 3), (9, .if_icmp .ge 18, 3), (12, .iload_n 1, 1), (13, .aload_n 0, 1), (14, .getfield 9, 3), (17, .iload_n 2, 1), (18, .iaload, 1), (19, .iadd, 1), (20, .istore_n 1, 1), (21, .iinc 2 1, 3), (24, .goto (-20), 3), (27, .iload_n 1, 1), (28, .ireturn, 1)]
set_option maxRecDepth 20000 in
theorem xi_k60_ok : ∀ e ∈ xi_k60, decode prog_6_method_13_code e.1 = .ok e.2 := by decide +kernel
/-- Ring_hasCell -/
def xi_k61 : List (Nat × Instr × Nat) := [(0, .iload_n 1, 1), (1, .ifCond .lt 15, 3), (4, .iload_n 1, 1), (5, .aload_n 0, 1), (6, .getfield 25, 3), (9, .if_icmp .ge 7, 3), (12, .iconst 1, 1), (13, .goto 4, 3), (16, .iconst 0, 1), (17, .ireturn, 1)]
set_option maxRecDepth 20000 in
theorem xi_k61_ok : ∀ e ∈ xi_k61, decode prog_6_method_4_code e.1 = .ok e.2 := by decide +kernel
/-- Ring_countIn -/
def xi_k62 : List (Nat × Instr × Nat) := [(0, .aload_n 0, 1), (1, .getfield 18, 3), (4, .iload_n 1, 1), (5, .iaload, 1), (6, .invokestatic 35, 3), (9, .istore_n 3, 1), (10, .iload_n 2, 1), (11, .iconst 2, 1), (12, .if_icmp .ne 7, 3), (15, .iload_n 3, 1), (16, .goto 11, 3), (19, .aload_n 0, 1), (20, .getfield 15, 3), (23, .iload_n 1, 1), (24, .iaload, 1), (25, .iload_n 3, 1), (26, .isub, 1), (27, .ireturn, 1)]
set_option maxRecDepth 20000 in
theorem xi_k62_ok : ∀ e ∈ xi_k62, decode prog_6_method_8_code e.1 = .ok e.2 := by decide +kernel
/-- Ring_ownerOf -/
def xi_k63 : List (Nat × Instr × Nat) := [(0, .iconst 1, 1), (1, .aload_n 0, 1), (2, .getfield 18, 3), (5, .iload_n 1, 1), (6, .iaload, 1), (7, .iload_n 2, 1), (8, .ishr, 1), (9, .iconst 1, 1), (10, .iand, 1), (11, .iadd, 1), (12, .ireturn, 1)]
set_option maxRecDepth 20000 in
theorem xi_k63_ok : ∀ e ∈ xi_k63, decode prog_6_method_5_code e.1 = .ok e.2 := by decide +kernel
/-- Ring_countOwned -/
def xi_k64 : List (Nat × Instr × Nat) := [(0, .iconst 0, 1), (1, .istore_n 2, 1), (2, .iconst 0, 1), (3, .istore_n 3, 1), (4, .iload_n 3, 1), (5, .aload_n 0, 1), (6, .getfield 25, 3), (9, .if_icmp .ge 18, 3), (12, .iload_n 2, 1), (13, .aload_n 0, 1), (14, .iload_n 3, 1), (15, .iload_n 1, 1), (16, .invokevirtual 41, 3), (19, .iadd, 1), (20, .istore_n 2, 1), (21, .iinc 3 1, 3), (24, .goto (-20), 3), (27, .iload_n 2, 1), (28, .ireturn, 1)]
set_option maxRecDepth 20000 in
theorem xi_k64_ok : ∀ e ∈ xi_k64, decode prog_6_method_9_code e.1 = .ok e.2 := by decide +kernel
/-- Ring_countCovered -/
def xi_k65 : List (Nat × Instr × Nat) := [(0, .iconst 0, 1), (1, .istore_n 2, 1), (2, .iconst 0, 1), (3, .istore_n 3, 1), (4, .iload_n 3, 1), (5, .aload_n 0, 1), (6, .getfield 25, 3), (9, .if_icmp .ge 18, 3), (12, .iload_n 2, 1), (13, .aload_n 0, 1), (14, .iload_n 3, 1), (15, .iload_n 1, 1), (16, .invokevirtual 53, 3), (19, .iadd, 1), (20, .istore_n 2, 1), (21, .iinc 3 1, 3), (24, .goto (-20), 3), (27, .iload_n 2, 1), (28, .ireturn, 1)]
set_option maxRecDepth 20000 in
theorem xi_k65_ok : ∀ e ∈ xi_k65, decode prog_6_method_16_code e.1 = .ok e.2 := by decide +kernel
/-- Ring_countCoveredIn -/
def xi_k66 : List (Nat × Instr × Nat) := [(0, .iconst 0, 1), (1, .istore_n 3, 1), (2, .iconst 0, 1), (3, .istore 4, 2), (5, .aload_n 0, 1), (6, .getfield 15, 3), (9, .iload_n 1, 1), (10, .iaload, 1), (11, .iconst 1, 1), (12, .isub, 1), (13, .istore 5, 2), (15, .iload 5, 2), (17, .ifCond .lt 34, 3), (20, .aload_n 0, 1), (21, .iload_n 1, 1), (22, .iload 5, 2), (24, .invokevirtual 56, 3), (27, .iload_n 2, 1), (28, .if_icmp .eq 9, 3), (31, .iconst 1, 1), (32, .istore 4, 2), (34, .goto 11, 3), (37, .iload 4, 2), (39, .ifCond .eq 6, 3), (42, .iinc 3 1, 3), (45, .iinc 5 (-1), 3), (48, .goto (-33), 3), (51, .iload_n 3, 1), (52, .ireturn, 1)]
set_option maxRecDepth 20000 in
theorem xi_k66_ok : ∀ e ∈ xi_k66, decode prog_6_method_17_code e.1 = .ok e.2 := by decide +kernel
/-- Ring_leadOf -/
def xi_k67 : List (Nat × Instr × Nat) := [(0, .iconst 0, 1), (1, .istore_n 2, 1), (2, .iconst 0, 1), (3, .istore_n 3, 1), (4, .iload_n 3, 1), (5, .aload_n 0, 1), (6, .getfield 25, 3), (9, .if_icmp .ge 36, 3), (12, .aload_n 0, 1), (13, .iload_n 3, 1), (14, .invokevirtual 45, 3), (17, .istore 4, 2), (19, .iload 4, 2), (21, .iload_n 1, 1), (22, .if_icmp .ne 9, 3), (25, .iinc 2 1, 3), (28, .goto 11, 3), (31, .iload 4, 2), (33, .ifCond .eq 6, 3), (36, .iinc 2 (-1), 3), (39, .iinc 3 1, 3), (42, .goto (-38), 3), (45, .iload_n 2, 1), (46, .ireturn, 1)]
set_option maxRecDepth 20000 in
theorem xi_k67_ok : ∀ e ∈ xi_k67, decode prog_6_method_12_code e.1 = .ok e.2 := by decide +kernel
/-- Ring_highestOf -/
def xi_k68 : List (Nat × Instr × Nat) := [(0, .iconst (-1), 1), (1, .istore_n 2, 1), (2, .iconst 0, 1), (3, .istore_n 3, 1), (4, .iload_n 3, 1), (5, .aload_n 0, 1), (6, .getfield 25, 3), (9, .if_icmp .ge 52, 3), (12, .iload_n 2, 1), (13, .iconst (-1), 1), (14, .if_icmp .eq 18, 3), (17, .aload_n 0, 1), (18, .getfield 15, 3), (21, .iload_n 3, 1), (22, .iaload, 1), (23, .aload_n 0, 1), (24, .getfield 15, 3), (27, .iload_n 2, 1), (28, .iaload, 1), (29, .if_icmp .le 7, 3), (32, .iconst 1, 1), (33, .goto 4, 3), (36, .iconst 0, 1), (37, .istore 4, 2), (39, .iload 4, 2), (41, .ifCond .eq 14, 3), (44, .aload_n 0, 1), (45, .iload_n 3, 1), (46, .invokevirtual 45, 3), (49, .iload_n 1, 1), (50, .if_icmp .ne 5, 3), (53, .iload_n 3, 1), (54, .istore_n 2, 1), (55, .iinc 3 1, 3), (58, .goto (-54), 3), (61, .iload_n 2, 1), (62, .ireturn, 1)]
set_option maxRecDepth 20000 in
theorem xi_k68_ok : ∀ e ∈ xi_k68, decode prog_6_method_15_code e.1 = .ok e.2 := by decide +kernel
/-- Ring_countThreats -/
def xi_k69 : List (Nat × Instr × Nat) := [(0, .iconst 0, 1), (1, .istore_n 2, 1), (2, .iconst 0, 1), (3, .istore_n 3, 1), (4, .iload_n 3, 1), (5, .aload_n 0, 1), (6, .getfield 25, 3), (9, .if_icmp .ge 18, 3), (12, .iload_n 2, 1), (13, .aload_n 0, 1), (14, .iload_n 3, 1), (15, .iload_n 1, 1), (16, .invokevirtual 73, 3), (19, .iadd, 1), (20, .istore_n 2, 1), (21, .iinc 3 1, 3), (24, .goto (-20), 3), (27, .iload_n 2, 1), (28, .ireturn, 1)]
set_option maxRecDepth 20000 in
theorem xi_k69_ok : ∀ e ∈ xi_k69, decode prog_6_method_28_code e.1 = .ok e.2 := by decide +kernel
/-- Ring_countThreatsFrom -/
def xi_k70 : List (Nat × Instr × Nat) := [(0, .iconst 0, 1), (1, .istore_n 3, 1), (2, .iconst 1, 1), (3, .istore 4, 2), (5, .iload 4, 2), (7, .iconst 4, 1), (8, .if_icmp .gt 71, 3), (11, .iload 4, 2), (13, .aload_n 0, 1), (14, .getfield 15, 3), (17, .iload_n 1, 1), (18, .iaload, 1), (19, .if_icmp .gt 60, 3), (22, .aload_n 0, 1), (23, .iload_n 1, 1), (24, .iload_n 2, 1), (25, .iload 4, 2), (27, .invokevirtual 76, 3), (30, .ifCond .le 43, 3), (33, .iload_n 3, 1), (34, .aload_n 0, 1), (35, .iload_n 1, 1), (36, .iconst 0, 1), (37, .iload 4, 2), (39, .invokevirtual 80, 3), (42, .iload_n 2, 1), (43, .if_icmp .ne 7, 3), (46, .iconst 1, 1), (47, .goto 4, 3), (50, .iconst 0, 1), (51, .iadd, 1), (52, .istore_n 3, 1), (53, .iload_n 3, 1), (54, .aload_n 0, 1), (55, .iload_n 1, 1), (56, .iconst 1, 1), (57, .iload 4, 2), (59, .invokevirtual 80, 3), (62, .iload_n 2, 1), (63, .if_icmp .ne 7, 3), (66, .iconst 1, 1), (67, .goto 4, 3), (70, .iconst 0, 1), (71, .iadd, 1), (72, .istore_n 3, 1), (73, .iinc 4 1, 3), (76, .goto (-71), 3), (79, .iload_n 3, 1), (80, .ireturn, 1)]
set_option maxRecDepth 20000 in
theorem xi_k70_ok : ∀ e ∈ xi_k70, decode prog_6_method_29_code e.1 = .ok e.2 := by decide +kernel
/-- Ring_reachedFrom -/
def xi_k71 : List (Nat × Instr × Nat) := [(0, .iconst 0, 1), (1, .istore_n 2, 1), (2, .iconst 1, 1), (3, .istore_n 3, 1), (4, .iload_n 3, 1), (5, .iconst 4, 1), (6, .if_icmp .gt 41, 3), (9, .iload_n 3, 1), (10, .aload_n 0, 1), (11, .getfield 15, 3), (14, .iload_n 1, 1), (15, .iaload, 1), (16, .if_icmp .gt 31, 3), (19, .iload_n 2, 1), (20, .iconst 1, 1), (21, .aload_n 0, 1), (22, .iload_n 1, 1), (23, .iconst 0, 1), (24, .iload_n 3, 1), (25, .invokevirtual 80, 3), (28, .ishl, 1), (29, .iconst 1, 1), (30, .aload_n 0, 1), (31, .iload_n 1, 1), (32, .iconst 1, 1), (33, .iload_n 3, 1), (34, .invokevirtual 80, 3), (37, .ishl, 1), (38, .ior, 1), (39, .ior, 1), (40, .istore_n 2, 1), (41, .iinc 3 1, 3), (44, .goto (-40), 3), (47, .iload_n 2, 1), (48, .ireturn, 1)]
set_option maxRecDepth 20000 in
theorem xi_k71_ok : ∀ e ∈ xi_k71, decode prog_6_method_30_code e.1 = .ok e.2 := by decide +kernel
/-- Ring_countOtherStacks -/
def xi_k72 : List (Nat × Instr × Nat) := [(0, .iconst 0, 1), (1, .istore_n 2, 1), (2, .iconst 0, 1), (3, .istore_n 3, 1), (4, .iload_n 3, 1), (5, .aload_n 0, 1), (6, .getfield 25, 3), (9, .if_icmp .ge 42, 3), (12, .aload_n 0, 1), (13, .getfield 15, 3), (16, .iload_n 3, 1), (17, .iaload, 1), (18, .aload_n 1, 1), (19, .getfield 15, 3), (22, .iload_n 3, 1), (23, .iaload, 1), (24, .if_icmp .ne 18, 3), (27, .aload_n 0, 1), (28, .getfield 18, 3), (31, .iload_n 3, 1), (32, .iaload, 1), (33, .aload_n 1, 1), (34, .getfield 18, 3), (37, .iload_n 3, 1), (38, .iaload, 1), (39, .if_icmp .eq 6, 3), (42, .iinc 2 1, 3), (45, .iinc 3 1, 3), (48, .goto (-44), 3), (51, .iload_n 2, 1), (52, .ireturn, 1)]
set_option maxRecDepth 20000 in
theorem xi_k72_ok : ∀ e ∈ xi_k72, decode prog_6_method_19_code e.1 = .ok e.2 := by decide +kernel
/-- Search_init -/
def xi_k73 : List (Nat × Instr × Nat) := [(0, .aload_n 0, 1), (1, .invokespecial 3, 3), (4, .aload_n 0, 1), (5, .new 9, 3), (8, .dup, 1), (9, .invokespecial 11, 3), (12, .putfield 12, 3), (15, .aload_n 0, 1), (16, .new 9, 3), (19, .dup, 1), (20, .invokespecial 11, 3), (23, .putfield 18, 3), (26, .return_, 1)]
set_option maxRecDepth 20000 in
theorem xi_k73_ok : ∀ e ∈ xi_k73, decode prog_7_method_1_code e.1 = .ok e.2 := by decide +kernel
/-- Search_countMoves -/
def xi_k74 : List (Nat × Instr × Nat) := [(0, .aload_n 0, 1), (1, .aload_n 1, 1), (2, .aload_n 0, 1), (3, .getfield 12, 3), (6, .invokevirtual 46, 3), (9, .ireturn, 1)]
set_option maxRecDepth 20000 in
theorem xi_k74_ok : ∀ e ∈ xi_k74, decode prog_7_method_4_code e.1 = .ok e.2 := by decide +kernel
/-- Search_countOpen -/
def xi_k75 : List (Nat × Instr × Nat) := [(0, .iconst 0, 1), (1, .istore_n 3, 1), (2, .iconst 0, 1), (3, .istore 4, 2), (5, .iload 4, 2), (7, .aload_n 1, 1), (8, .getfield 50, 3), (11, .getfield 54, 3), (14, .invokestatic 60, 3), (17, .if_icmp .ge 33, 3), (20, .aload_n 0, 1), (21, .aload_n 1, 1), (22, .iload 4, 2), (24, .aload_n 1, 1), (25, .getfield 50, 3), (28, .getfield 54, 3), (31, .invokestatic 63, 3), (34, .aload_n 2, 1), (35, .invokevirtual 21, 3), (38, .ifCond .ne 6, 3), (41, .iinc 3 1, 3), (44, .iinc 4 1, 3), (47, .goto (-42), 3), (50, .iload_n 3, 1), (51, .ireturn, 1)]
set_option maxRecDepth 20000 in
theorem xi_k75_ok : ∀ e ∈ xi_k75, decode prog_7_method_5_code e.1 = .ok e.2 := by decide +kernel
/-- Search_refusal -/
def xi_k76 : List (Nat × Instr × Nat) := [(0, .aload_n 1, 1), (1, .iload_n 2, 1), (2, .invokevirtual 25, 3), (5, .istore 4, 2), (7, .iload 4, 2), (9, .ifCond .eq 6, 3), (12, .iload 4, 2), (14, .ireturn, 1), (15, .aload_n 3, 1), (16, .aload_n 1, 1), (17, .invokevirtual 29, 3), (20, .aload_n 3, 1), (21, .iload_n 2, 1), (22, .invokevirtual 33, 3), (25, .pop, 1), (26, .aload_n 1, 1), (27, .getfield 36, 3), (30, .aload_n 3, 1), (31, .invokevirtual 40, 3), (34, .ifCond .eq 7, 3), (37, .iconst 5, 1), (38, .goto 4, 3), (41, .iconst 0, 1), (42, .ireturn, 1)]
set_option maxRecDepth 20000 in
theorem xi_k76_ok : ∀ e ∈ xi_k76, decode prog_7_method_3_code e.1 = .ok e.2 := by decide +kernel
/-- Search_refusalOf -/
def xi_k77 : List (Nat × Instr × Nat) := [(0, .aload_n 0, 1), (1, .aload_n 1, 1), (2, .iload_n 2, 1), (3, .aload_n 0, 1), (4, .getfield 12, 3), (7, .invokevirtual 21, 3), (10, .ireturn, 1)]
set_option maxRecDepth 20000 in
theorem xi_k77_ok : ∀ e ∈ xi_k77, decode prog_7_method_2_code e.1 = .ok e.2 := by decide +kernel
/-- Search_moveAt -/
def xi_k78 : List (Nat × Instr × Nat) := [(0, .iconst 0, 1), (1, .istore_n 3, 1), (2, .iconst 0, 1), (3, .istore 4, 2), (5, .iload 4, 2), (7, .aload_n 1, 1), (8, .getfield 50, 3), (11, .getfield 54, 3), (14, .invokestatic 60, 3), (17, .if_icmp .ge 48, 3), (20, .iload 4, 2), (22, .aload_n 1, 1), (23, .getfield 50, 3), (26, .getfield 54, 3), (29, .invokestatic 63, 3), (32, .istore 5, 2), (34, .aload_n 0, 1), (35, .aload_n 1, 1), (36, .iload 5, 2), (38, .aload_n 0, 1), (39, .getfield 12, 3), (42, .invokevirtual 21, 3), (45, .ifCond .ne 14, 3), (48, .iload_n 3, 1), (49, .iload_n 2, 1), (50, .if_icmp .ne 6, 3), (53, .iload 5, 2), (55, .ireturn, 1), (56, .iinc 3 1, 3), (59, .iinc 4 1, 3), (62, .goto (-57), 3), (65, .iconst (-1), 1), (66, .ireturn, 1)]
set_option maxRecDepth 20000 in
theorem xi_k78_ok : ∀ e ∈ xi_k78, decode prog_7_method_6_code e.1 = .ok e.2 := by decide +kernel
/-- Search_valueBehind -/
def xi_k79 : List (Nat × Instr × Nat) := [(0, .aload_n 0, 1), (1, .getfield 12, 3), (4, .aload_n 1, 1), (5, .getfield 77, 3), (8, .invokevirtual 80, 3), (11, .istore_n 3, 1), (12, .iload_n 2, 1), (13, .iconst 1, 1), (14, .if_icmp .ne 5, 3), (17, .iload_n 3, 1), (18, .ireturn, 1), (19, .aload_n 0, 1), (20, .aload_n 1, 1), (21, .invokevirtual 67, 3), (24, .iconst 0, 1), (25, .istore 4, 2), (27, .iconst 0, 1), (28, .istore 5, 2), (30, .iload 5, 2), (32, .aload_n 1, 1), (33, .getfield 50, 3), (36, .getfield 54, 3), (39, .invokestatic 60, 3), (42, .if_icmp .ge 69, 3), (45, .aload_n 0, 1), (46, .aload_n 0, 1), (47, .getfield 12, 3), (50, .iload 5, 2), (52, .aload_n 1, 1), (53, .getfield 50, 3), (56, .getfield 54, 3), (59, .invokestatic 63, 3), (62, .aload_n 0, 1), (63, .getfield 18, 3), (66, .invokevirtual 21, 3), (69, .ifCond .ne 36, 3), (72, .aload_n 0, 1), (73, .getfield 18, 3), (76, .aload_n 1, 1), (77, .getfield 77, 3), (80, .invokevirtual 80, 3), (83, .istore 6, 2), (85, .iload 4, 2), (87, .ifCond .eq 12, 3), (90, .iload_n 3, 1), (91, .iload 6, 2), (93, .invokestatic 83, 3), (96, .goto 5, 3), (99, .iload 6, 2), (101, .istore_n 3, 1), (102, .iconst 1, 1), (103, .istore 4, 2), (105, .iinc 5 1, 3), (108, .goto (-78), 3), (111, .iload_n 3, 1), (112, .ireturn, 1)]
set_option maxRecDepth 20000 in
theorem xi_k79_ok : ∀ e ∈ xi_k79, decode prog_7_method_9_code e.1 = .ok e.2 := by decide +kernel
/-- Search_takePositions -/
def xi_k80 : List (Nat × Instr × Nat) := [(0, .aload_n 0, 1), (1, .getfield 12, 3), (4, .getfield 36, 3), (7, .aload_n 1, 1), (8, .getfield 36, 3), (11, .invokevirtual 70, 3), (14, .aload_n 0, 1), (15, .getfield 12, 3), (18, .getfield 36, 3), (21, .aload_n 0, 1), (22, .getfield 12, 3), (25, .invokevirtual 74, 3), (28, .return_, 1)]
set_option maxRecDepth 20000 in
theorem xi_k80_ok : ∀ e ∈ xi_k80, decode prog_7_method_8_code e.1 = .ok e.2 := by decide +kernel
/-- Search_bestMove -/
def xi_k81 : List (Nat × Instr × Nat) := [(0, .iconst (-1), 1), (1, .istore_n 3, 1), (2, .iconst 0, 1), (3, .istore 4, 2), (5, .iconst 0, 1), (6, .istore 5, 2), (8, .iload 5, 2), (10, .aload_n 1, 1), (11, .getfield 50, 3), (14, .getfield 54, 3), (17, .invokestatic 60, 3), (20, .if_icmp .ge 64, 3), (23, .iload 5, 2), (25, .aload_n 1, 1), (26, .getfield 50, 3), (29, .getfield 54, 3), (32, .invokestatic 63, 3), (35, .istore 6, 2), (37, .aload_n 0, 1), (38, .aload_n 1, 1), (39, .iload 6, 2), (41, .aload_n 0, 1), (42, .getfield 12, 3), (45, .invokevirtual 21, 3), (48, .ifCond .ne 30, 3), (51, .aload_n 0, 1), (52, .aload_n 1, 1), (53, .iload_n 2, 1), (54, .invokevirtual 88, 3), (57, .istore 7, 2), (59, .iload_n 3, 1), (60, .iconst (-1), 1), (61, .if_icmp .eq 10, 3), (64, .iload 7, 2), (66, .iload 4, 2), (68, .if_icmp .le 10, 3), (71, .iload 6, 2), (73, .istore_n 3, 1), (74, .iload 7, 2), (76, .istore 4, 2), (78, .iinc 5 1, 3), (81, .goto (-73), 3), (84, .iload_n 3, 1), (85, .ireturn, 1)]
set_option maxRecDepth 20000 in
theorem xi_k81_ok : ∀ e ∈ xi_k81, decode prog_7_method_10_code e.1 = .ok e.2 := by decide +kernel
/-- Search_countAnswers -/
def xi_k82 : List (Nat × Instr × Nat) := [(0, .aload_n 0, 1), (1, .aload_n 1, 1), (2, .invokevirtual 67, 3), (5, .aload_n 0, 1), (6, .aload_n 0, 1), (7, .getfield 12, 3), (10, .aload_n 0, 1), (11, .getfield 18, 3), (14, .invokevirtual 46, 3), (17, .ireturn, 1)]
set_option maxRecDepth 20000 in
theorem xi_k82_ok : ∀ e ∈ xi_k82, decode prog_7_method_7_code e.1 = .ok e.2 := by decide +kernel
/-- X_init -/
def xi_k83 : List (Nat × Instr × Nat) := [(0, .aload_n 0, 1), (1, .invokespecial 3, 3), (4, .aload_n 0, 1), (5, .new 9, 3), (8, .dup, 1), (9, .invokespecial 11, 3), (12, .putfield 12, 3), (15, .aload_n 0, 1), (16, .new 16, 3), (19, .dup, 1), (20, .invokespecial 18, 3), (23, .putfield 19, 3), (26, .aload_n 0, 1), (27, .new 23, 3), (30, .dup, 1), (31, .invokespecial 25, 3), (34, .putfield 26, 3), (37, .aload_n 0, 1), (38, .iconst 2, 1), (39, .anewarray 9, 3), (42, .putfield 30, 3), (45, .aload_n 0, 1), (46, .iconst 2, 1), (47, .newarray .boolean, 2), (49, .putfield 34, 3), (52, .aload_n 0, 1), (53, .new 38, 3), (56, .dup, 1), (57, .invokespecial 40, 3), (60, .putfield 41, 3), (63, .aload_n 0, 1), (64, .bipush 10, 2), (66, .newarray .byte, 2), (68, .putfield 45, 3), (71, .aload_n 0, 1), (72, .iconst 0, 1), (73, .putfield 49, 3), (76, .aload_n 0, 1), (77, .iconst (-1), 1), (78, .putfield 53, 3), (81, .iconst 0, 1), (82, .istore_n 1, 1), (83, .iload_n 1, 1), (84, .iconst 2, 1), (85, .if_icmp .ge 22, 3), (88, .aload_n 0, 1), (89, .getfield 30, 3), (92, .iload_n 1, 1), (93, .new 9, 3), (96, .dup, 1), (97, .invokespecial 11, 3), (100, .aastore, 1), (101, .iinc 1 1, 3), (104, .goto (-21), 3), (107, .aload_n 0, 1), (108, .getfield 12, 3), (111, .invokevirtual 56, 3), (114, .return_, 1)]
set_option maxRecDepth 20000 in
theorem xi_k83_ok : ∀ e ∈ xi_k83, decode prog_1_method_1_code e.1 = .ok e.2 := by decide +kernel
/-- X_errorPosition -/
def xi_k84 : List (Nat × Instr × Nat) := [(0, .aload_n 0, 1), (1, .getfield 53, 3), (4, .ireturn, 1)]
set_option maxRecDepth 20000 in
theorem xi_k84_ok : ∀ e ∈ xi_k84, decode prog_1_method_4_code e.1 = .ok e.2 := by decide +kernel
/-- X_moves -/
def xi_k85 : List (Nat × Instr × Nat) := [(0, .aload_n 0, 1), (1, .getfield 19, 3), (4, .aload_n 0, 1), (5, .getfield 12, 3), (8, .invokevirtual 225, 3), (11, .ireturn, 1)]
set_option maxRecDepth 20000 in
theorem xi_k85_ok : ∀ e ∈ xi_k85, decode prog_1_method_14_code e.1 = .ok e.2 := by decide +kernel
/-- X_countCodes -/
def xi_k86 : List (Nat × Instr × Nat) := [(0, .bipush 10, 2), (2, .iload_n 0, 1), (3, .imul, 1), (4, .ireturn, 1)]
set_option maxRecDepth 20000 in
theorem xi_k86_ok : ∀ e ∈ xi_k86, decode prog_1_method_37_code e.1 = .ok e.2 := by decide +kernel
/-- X_codeAt -/
def xi_k87 : List (Nat × Instr × Nat) := [(0, .bipush 8, 2), (2, .istore_n 2, 1), (3, .iload_n 2, 1), (4, .iload_n 1, 1), (5, .imul, 1), (6, .istore_n 3, 1), (7, .iload_n 0, 1), (8, .iload_n 3, 1), (9, .if_icmp .ge 29, 3), (12, .iload_n 0, 1), (13, .iconst 4, 1), (14, .idiv, 1), (15, .iconst 2, 1), (16, .irem, 1), (17, .istore 4, 2), (19, .bipush 100, 2), (21, .iload_n 0, 1), (22, .iload_n 2, 1), (23, .idiv, 1), (24, .imul, 1), (25, .bipush 10, 2), (27, .iload 4, 2), (29, .imul, 1), (30, .iadd, 1), (31, .iload_n 0, 1), (32, .iconst 4, 1), (33, .irem, 1), (34, .iadd, 1), (35, .iconst 1, 1), (36, .iadd, 1), (37, .ireturn, 1), (38, .iload_n 0, 1), (39, .iload_n 3, 1), (40, .isub, 1), (41, .istore 4, 2), (43, .iload 4, 2), (45, .iload_n 1, 1), (46, .if_icmp .ge 12, 3), (49, .sipush 2000, 3), (52, .iload 4, 2), (54, .iadd, 1), (55, .goto 11, 3), (58, .sipush 3000, 3), (61, .iload 4, 2), (63, .iadd, 1), (64, .iload_n 1, 1), (65, .isub, 1), (66, .ireturn, 1)]
set_option maxRecDepth 20000 in
theorem xi_k87_ok : ∀ e ∈ xi_k87, decode prog_1_method_38_code e.1 = .ok e.2 := by decide +kernel
/-- X_otherThan -/
def xi_k88 : List (Nat × Instr × Nat) := [(0, .iconst 3, 1), (1, .iload_n 0, 1), (2, .isub, 1), (3, .ireturn, 1)]
set_option maxRecDepth 20000 in
theorem xi_k88_ok : ∀ e ∈ xi_k88, decode prog_1_method_36_code e.1 = .ok e.2 := by decide +kernel
/-- X_rotateCaps -/
def xi_k89 : List (Nat × Instr × Nat) := [(0, .aload_n 0, 1), (1, .getfield 26, 3), (4, .aload_n 0, 1), (5, .getfield 12, 3), (8, .invokevirtual 95, 3), (11, .aload_n 0, 1), (12, .getfield 19, 3), (15, .getfield 245, 3), (18, .getfield 103, 3), (21, .astore_n 1, 1), (22, .aload_n 1, 1), (23, .aload_n 0, 1), (24, .getfield 12, 3), (27, .getfield 103, 3), (30, .invokevirtual 248, 3), (33, .aload_n 0, 1), (34, .getfield 12, 3), (37, .getfield 103, 3), (40, .invokevirtual 282, 3), (43, .aload_n 0, 1), (44, .getfield 12, 3), (47, .invokevirtual 56, 3), (50, .aload_n 0, 1), (51, .getfield 12, 3), (54, .getfield 103, 3), (57, .aload_n 1, 1), (58, .invokevirtual 285, 3), (61, .ireturn, 1)]
set_option maxRecDepth 20000 in
theorem xi_k89_ok : ∀ e ∈ xi_k89, decode prog_1_method_24_code e.1 = .ok e.2 := by decide +kernel
/-- X_append -/
def xi_k90 : List (Nat × Instr × Nat) := [(0, .aload_n 0, 1), (1, .getfield 41, 3), (4, .invokevirtual 59, 3), (7, .ifCond .ne 13, 3), (10, .new 63, 3), (13, .dup, 1), (14, .ldc 65, 2), (16, .invokespecial 67, 3), (19, .athrow, 1), (20, .aload_n 0, 1), (21, .getfield 41, 3), (24, .iload_n 1, 1), (25, .invokevirtual 70, 3), (28, .aload_n 0, 1), (29, .getfield 41, 3), (32, .iload_n 2, 1), (33, .invokevirtual 70, 3), (36, .aload_n 0, 1), (37, .getfield 41, 3), (40, .iload_n 3, 1), (41, .invokevirtual 70, 3), (44, .aload_n 0, 1), (45, .getfield 41, 3), (48, .iload 4, 2), (50, .invokevirtual 70, 3), (53, .aload_n 0, 1), (54, .getfield 41, 3), (57, .iload 5, 2), (59, .invokevirtual 70, 3), (62, .aload_n 0, 1), (63, .getfield 41, 3), (66, .getfield 74, 3), (69, .ireturn, 1)]
set_option maxRecDepth 20000 in
theorem xi_k90_ok : ∀ e ∈ xi_k90, decode prog_1_method_2_code e.1 = .ok e.2 := by decide +kernel
/-- X_load -/
def xi_k91 : List (Nat × Instr × Nat) := [(0, .iload_n 1, 1), (1, .ifCond .lt 14, 3), (4, .iload_n 1, 1), (5, .aload_n 0, 1), (6, .getfield 41, 3), (9, .getfield 74, 3), (12, .if_icmp .le 13, 3), (15, .new 77, 3), (18, .dup, 1), (19, .ldc 79, 2), (21, .invokespecial 81, 3), (24, .athrow, 1), (25, .aload_n 0, 1), (26, .getfield 41, 3), (29, .iload_n 1, 1), (30, .invokevirtual 82, 3), (33, .istore_n 2, 1), (34, .aload_n 0, 1), (35, .getfield 41, 3), (38, .invokevirtual 86, 3), (41, .iload_n 2, 1), (42, .ifCond .ne 22, 3), (45, .aload_n 0, 1), (46, .aload_n 0, 1), (47, .getfield 41, 3), (50, .getfield 89, 3), (53, .putfield 53, 3), (56, .aload_n 0, 1), (57, .getfield 41, 3), (60, .getfield 92, 3), (63, .ireturn, 1), (64, .aload_n 0, 1), (65, .iconst (-1), 1), (66, .putfield 53, 3), (69, .aload_n 0, 1), (70, .getfield 26, 3), (73, .aload_n 0, 1), (74, .getfield 12, 3), (77, .invokevirtual 95, 3), (80, .aload_n 0, 1), (81, .getfield 12, 3), (84, .aload_n 0, 1), (85, .getfield 41, 3), (88, .getfield 99, 3), (91, .invokevirtual 100, 3), (94, .aload_n 0, 1), (95, .getfield 12, 3), (98, .invokevirtual 56, 3), (101, .aload_n 0, 1), (102, .getfield 12, 3), (105, .getfield 103, 3), (108, .invokevirtual 107, 3), (111, .ireturn, 1)]
set_option maxRecDepth 20000 in
theorem xi_k91_ok : ∀ e ∈ xi_k91, decode prog_1_method_3_code e.1 = .ok e.2 := by decide +kernel
/-- X_count -/
def xi_k92 : List (Nat × Instr × Nat) := [(0, .iload_n 1, 1), (1, .tableswitch 151 0 9 #[55, 66, 74, 82, 90, 98, 106, 117, 129, 140], 55), (56, .aload_n 0, 1), (57, .getfield 12, 3), (60, .getfield 103, 3), (63, .getfield 113, 3), (66, .ireturn, 1), (67, .aload_n 0, 1), (68, .getfield 12, 3), (71, .getfield 116, 3), (74, .ireturn, 1), (75, .aload_n 0, 1), (76, .getfield 12, 3), (79, .getfield 119, 3), (82, .ireturn, 1), (83, .aload_n 0, 1), (84, .getfield 12, 3), (87, .getfield 122, 3), (90, .ireturn, 1), (91, .aload_n 0, 1), (92, .getfield 12, 3), (95, .getfield 125, 3), (98, .ireturn, 1), (99, .aload_n 0, 1), (100, .getfield 12, 3), (103, .invokevirtual 128, 3), (106, .ireturn, 1), (107, .aload_n 0, 1), (108, .getfield 12, 3), (111, .getfield 103, 3), (114, .invokevirtual 107, 3), (117, .ireturn, 1), (118, .aload_n 0, 1), (119, .getfield 12, 3), (122, .getfield 103, 3), (125, .iconst 0, 1), (126, .invokevirtual 131, 3), (129, .ireturn, 1), (130, .aload_n 0, 1), (131, .getfield 12, 3), (134, .getfield 103, 3), (137, .invokevirtual 135, 3), (140, .ireturn, 1), (141, .aload_n 0, 1), (142, .getfield 12, 3), (145, .getfield 103, 3), (148, .invokevirtual 138, 3), (151, .ireturn, 1), (152, .new 77, 3), (155, .dup, 1), (156, .ldc 141, 2), (158, .invokespecial 81, 3), (161, .athrow, 1)]
set_option maxRecDepth 20000 in
theorem xi_k92_ok : ∀ e ∈ xi_k92, decode prog_1_method_5_code e.1 = .ok e.2 := by decide +kernel
/-- X_cell -/
def xi_k93 : List (Nat × Instr × Nat) := [(0, .aload_n 0, 1), (1, .getfield 12, 3), (4, .getfield 103, 3), (7, .iload_n 1, 1), (8, .invokevirtual 143, 3), (11, .ifCond .ne 13, 3), (14, .new 146, 3), (17, .dup, 1), (18, .ldc 148, 2), (20, .invokespecial 150, 3), (23, .athrow, 1), (24, .iload_n 2, 1), (25, .tableswitch 98 0 4 #[35, 48, 61, 73, 85], 35), (60, .aload_n 0, 1), (61, .getfield 12, 3), (64, .getfield 103, 3), (67, .getfield 151, 3), (70, .iload_n 1, 1), (71, .iaload, 1), (72, .ireturn, 1), (73, .aload_n 0, 1), (74, .getfield 12, 3), (77, .getfield 103, 3), (80, .getfield 155, 3), (83, .iload_n 1, 1), (84, .iaload, 1), (85, .ireturn, 1), (86, .aload_n 0, 1), (87, .getfield 12, 3), (90, .getfield 103, 3), (93, .iload_n 1, 1), (94, .invokevirtual 158, 3), (97, .ireturn, 1), (98, .aload_n 0, 1), (99, .getfield 12, 3), (102, .getfield 103, 3), (105, .iload_n 1, 1), (106, .invokevirtual 161, 3), (109, .ireturn, 1), (110, .aload_n 0, 1), (111, .getfield 12, 3), (114, .getfield 103, 3), (117, .iload_n 1, 1), (118, .iconst 1, 1), (119, .invokevirtual 164, 3), (122, .ireturn, 1), (123, .new 77, 3), (126, .dup, 1), (127, .ldc 168, 2), (129, .invokespecial 81, 3), (132, .athrow, 1)]
set_option maxRecDepth 20000 in
theorem xi_k93_ok : ∀ e ∈ xi_k93, decode prog_1_method_6_code e.1 = .ok e.2 := by decide +kernel
/-- X_piece -/
def xi_k94 : List (Nat × Instr × Nat) := [(0, .aload_n 0, 1), (1, .getfield 12, 3), (4, .getfield 103, 3), (7, .iload_n 1, 1), (8, .invokevirtual 143, 3), (11, .ifCond .eq 23, 3), (14, .iload_n 2, 1), (15, .ifCond .lt 19, 3), (18, .iload_n 2, 1), (19, .aload_n 0, 1), (20, .getfield 12, 3), (23, .getfield 103, 3), (26, .getfield 155, 3), (29, .iload_n 1, 1), (30, .iaload, 1), (31, .if_icmp .lt 13, 3), (34, .new 146, 3), (37, .dup, 1), (38, .ldc 170, 2), (40, .invokespecial 150, 3), (43, .athrow, 1), (44, .aload_n 0, 1), (45, .getfield 12, 3), (48, .getfield 103, 3), (51, .iload_n 1, 1), (52, .iload_n 2, 1), (53, .invokevirtual 172, 3), (56, .ireturn, 1)]
set_option maxRecDepth 20000 in
theorem xi_k94_ok : ∀ e ∈ xi_k94, decode prog_1_method_7_code e.1 = .ok e.2 := by decide +kernel
/-- X_player -/
def xi_k95 : List (Nat × Instr × Nat) := [(0, .iload_n 1, 1), (1, .invokestatic 175, 3), (4, .ifCond .ne 13, 3), (7, .new 77, 3), (10, .dup, 1), (11, .ldc 178, 2), (13, .invokespecial 81, 3), (16, .athrow, 1), (17, .iload_n 2, 1), (18, .tableswitch 103 0 5 #[38, 50, 60, 70, 82, 94], 38), (56, .aload_n 0, 1), (57, .getfield 12, 3), (60, .getfield 103, 3), (63, .iload_n 1, 1), (64, .invokevirtual 180, 3), (67, .ireturn, 1), (68, .aload_n 0, 1), (69, .getfield 12, 3), (72, .getfield 183, 3), (75, .iload_n 1, 1), (76, .iaload, 1), (77, .ireturn, 1), (78, .aload_n 0, 1), (79, .getfield 12, 3), (82, .getfield 186, 3), (85, .iload_n 1, 1), (86, .iaload, 1), (87, .ireturn, 1), (88, .aload_n 0, 1), (89, .getfield 12, 3), (92, .getfield 103, 3), (95, .iload_n 1, 1), (96, .invokevirtual 131, 3), (99, .ireturn, 1), (100, .aload_n 0, 1), (101, .getfield 12, 3), (104, .getfield 103, 3), (107, .iload_n 1, 1), (108, .invokevirtual 189, 3), (111, .ireturn, 1), (112, .aload_n 0, 1), (113, .getfield 12, 3), (116, .iload_n 1, 1), (117, .invokevirtual 192, 3), (120, .ireturn, 1), (121, .new 77, 3), (124, .dup, 1), (125, .ldc 195, 2), (127, .invokespecial 81, 3), (130, .athrow, 1)]
set_option maxRecDepth 20000 in
theorem xi_k95_ok : ∀ e ∈ xi_k95, decode prog_1_method_8_code e.1 = .ok e.2 := by decide +kernel
/-- X_isPlayer -/
def xi_k96 : List (Nat × Instr × Nat) := [(0, .iload_n 0, 1), (1, .iconst 1, 1), (2, .if_icmp .lt 12, 3), (5, .iload_n 0, 1), (6, .iconst 2, 1), (7, .if_icmp .gt 7, 3), (10, .iconst 1, 1), (11, .goto 4, 3), (14, .iconst 0, 1), (15, .ireturn, 1)]
set_option maxRecDepth 20000 in
theorem xi_k96_ok : ∀ e ∈ xi_k96, decode prog_1_method_32_code e.1 = .ok e.2 := by decide +kernel
/-- X_highest -/
def xi_k97 : List (Nat × Instr × Nat) := [(0, .iload_n 1, 1), (1, .invokestatic 175, 3), (4, .ifCond .ne 13, 3), (7, .new 77, 3), (10, .dup, 1), (11, .ldc 178, 2), (13, .invokespecial 81, 3), (16, .athrow, 1), (17, .aload_n 0, 1), (18, .getfield 12, 3), (21, .getfield 103, 3), (24, .iload_n 1, 1), (25, .invokevirtual 197, 3), (28, .istore_n 2, 1), (29, .iload_n 2, 1), (30, .iconst (-1), 1), (31, .if_icmp .ne 13, 3), (34, .new 200, 3), (37, .dup, 1), (38, .ldc 202, 2), (40, .invokespecial 204, 3), (43, .athrow, 1), (44, .iload_n 2, 1), (45, .ireturn, 1)]
set_option maxRecDepth 20000 in
theorem xi_k97_ok : ∀ e ∈ xi_k97, decode prog_1_method_9_code e.1 = .ok e.2 := by decide +kernel
/-- X_reason -/
def xi_k98 : List (Nat × Instr × Nat) := [(0, .aload_n 0, 1), (1, .getfield 12, 3), (4, .iload_n 1, 1), (5, .invokevirtual 205, 3), (8, .ifCond .ne 13, 3), (11, .new 77, 3), (14, .dup, 1), (15, .ldc 208, 2), (17, .invokespecial 81, 3), (20, .athrow, 1), (21, .aload_n 0, 1), (22, .getfield 19, 3), (25, .aload_n 0, 1), (26, .getfield 12, 3), (29, .iload_n 1, 1), (30, .invokevirtual 210, 3), (33, .ireturn, 1)]
set_option maxRecDepth 20000 in
theorem xi_k98_ok : ∀ e ∈ xi_k98, decode prog_1_method_10_code e.1 = .ok e.2 := by decide +kernel
/-- X_isCarry -/
def xi_k99 : List (Nat × Instr × Nat) := [(0, .iload_n 0, 1), (1, .ifCond .lt 22, 3), (4, .iload_n 0, 1), (5, .iconst 1, 1), (6, .if_icmp .gt 17, 3), (9, .iload_n 1, 1), (10, .iconst 1, 1), (11, .if_icmp .lt 12, 3), (14, .iload_n 1, 1), (15, .iconst 4, 1), (16, .if_icmp .gt 7, 3), (19, .iconst 1, 1), (20, .goto 4, 3), (23, .iconst 0, 1), (24, .ireturn, 1)]
set_option maxRecDepth 20000 in
theorem xi_k99_ok : ∀ e ∈ xi_k99, decode prog_1_method_35_code e.1 = .ok e.2 := by decide +kernel
/-- X_carry -/
def xi_k100 : List (Nat × Instr × Nat) := [(0, .aload_n 0, 1), (1, .getfield 12, 3), (4, .getfield 103, 3), (7, .iload_n 1, 1), (8, .invokevirtual 143, 3), (11, .ifCond .ne 13, 3), (14, .new 146, 3), (17, .dup, 1), (18, .ldc 148, 2), (20, .invokespecial 150, 3), (23, .athrow, 1), (24, .iload_n 2, 1), (25, .iload_n 3, 1), (26, .invokestatic 214, 3), (29, .ifCond .ne 13, 3), (32, .new 77, 3), (35, .dup, 1), (36, .ldc 218, 2), (38, .invokespecial 81, 3), (41, .athrow, 1), (42, .bipush 100, 2), (44, .iload_n 1, 1), (45, .imul, 1), (46, .bipush 10, 2), (48, .iload_n 2, 1), (49, .imul, 1), (50, .iadd, 1), (51, .iload_n 3, 1), (52, .iadd, 1), (53, .istore 4, 2), (55, .aload_n 0, 1), (56, .getfield 19, 3), (59, .aload_n 0, 1), (60, .getfield 12, 3), (63, .iload 4, 2), (65, .invokevirtual 210, 3), (68, .ifCond .eq 13, 3), (71, .new 63, 3), (74, .dup, 1), (75, .ldc 220, 2), (77, .invokespecial 67, 3), (80, .athrow, 1), (81, .aload_n 0, 1), (82, .iload 4, 2), (84, .invokevirtual 222, 3), (87, .ireturn, 1)]
set_option maxRecDepth 20000 in
theorem xi_k100_ok : ∀ e ∈ xi_k100, decode prog_1_method_11_code e.1 = .ok e.2 := by decide +kernel
/-- X_makeMove -/
def xi_k101 : List (Nat × Instr × Nat) := [(0, .aload_n 0, 1), (1, .getfield 26, 3), (4, .aload_n 0, 1), (5, .getfield 12, 3), (8, .invokevirtual 95, 3), (11, .aload_n 0, 1), (12, .getfield 12, 3), (15, .iload_n 1, 1), (16, .invokevirtual 311, 3), (19, .istore_n 2, 1), (20, .aload_n 0, 1), (21, .getfield 12, 3), (24, .getfield 312, 3), (27, .aload_n 0, 1), (28, .getfield 12, 3), (31, .invokevirtual 316, 3), (34, .iload_n 2, 1), (35, .ireturn, 1)]
set_option maxRecDepth 20000 in
theorem xi_k101_ok : ∀ e ∈ xi_k101, decode prog_1_method_31_code e.1 = .ok e.2 := by decide +kernel
/-- X_roll -/
def xi_k102 : List (Nat × Instr × Nat) := [(0, .aload_n 0, 1), (1, .getfield 12, 3), (4, .getfield 103, 3), (7, .iload_n 1, 1), (8, .invokevirtual 143, 3), (11, .ifCond .ne 13, 3), (14, .new 146, 3), (17, .dup, 1), (18, .ldc 148, 2), (20, .invokespecial 150, 3), (23, .athrow, 1), (24, .aload_n 0, 1), (25, .getfield 19, 3), (28, .aload_n 0, 1), (29, .getfield 12, 3), (32, .sipush 2000, 3), (35, .iload_n 1, 1), (36, .iadd, 1), (37, .invokevirtual 210, 3), (40, .ifCond .eq 13, 3), (43, .new 63, 3), (46, .dup, 1), (47, .ldc 220, 2), (49, .invokespecial 67, 3), (52, .athrow, 1), (53, .aload_n 0, 1), (54, .sipush 2000, 3), (57, .iload_n 1, 1), (58, .iadd, 1), (59, .invokevirtual 222, 3), (62, .pop, 1), (63, .aload_n 0, 1), (64, .getfield 12, 3), (67, .getfield 103, 3), (70, .iload_n 1, 1), (71, .invokevirtual 158, 3), (74, .ireturn, 1)]
set_option maxRecDepth 20000 in
theorem xi_k102_ok : ∀ e ∈ xi_k102, decode prog_1_method_12_code e.1 = .ok e.2 := by decide +kernel
/-- X_drop -/
def xi_k103 : List (Nat × Instr × Nat) := [(0, .aload_n 0, 1), (1, .getfield 12, 3), (4, .getfield 103, 3), (7, .iload_n 1, 1), (8, .invokevirtual 143, 3), (11, .ifCond .ne 13, 3), (14, .new 146, 3), (17, .dup, 1), (18, .ldc 148, 2), (20, .invokespecial 150, 3), (23, .athrow, 1), (24, .aload_n 0, 1), (25, .getfield 19, 3), (28, .aload_n 0, 1), (29, .getfield 12, 3), (32, .sipush 3000, 3), (35, .iload_n 1, 1), (36, .iadd, 1), (37, .invokevirtual 210, 3), (40, .ifCond .eq 13, 3), (43, .new 63, 3), (46, .dup, 1), (47, .ldc 220, 2), (49, .invokespecial 67, 3), (52, .athrow, 1), (53, .aload_n 0, 1), (54, .getfield 12, 3), (57, .getfield 116, 3), (60, .istore_n 2, 1), (61, .aload_n 0, 1), (62, .sipush 3000, 3), (65, .iload_n 1, 1), (66, .iadd, 1), (67, .invokevirtual 222, 3), (70, .pop, 1), (71, .aload_n 0, 1), (72, .getfield 12, 3), (75, .getfield 183, 3), (78, .iload_n 2, 1), (79, .iaload, 1), (80, .ireturn, 1)]
set_option maxRecDepth 20000 in
theorem xi_k103_ok : ∀ e ∈ xi_k103, decode prog_1_method_13_code e.1 = .ok e.2 := by decide +kernel
/-- X_move -/
def xi_k104 : List (Nat × Instr × Nat) := [(0, .iload_n 1, 1), (1, .ifCond .ge 7, 3), (4, .iconst (-1), 1), (5, .goto 15, 3), (8, .aload_n 0, 1), (9, .getfield 19, 3), (12, .aload_n 0, 1), (13, .getfield 12, 3), (16, .iload_n 1, 1), (17, .invokevirtual 229, 3), (20, .istore_n 2, 1), (21, .iload_n 2, 1), (22, .iconst (-1), 1), (23, .if_icmp .ne 13, 3), (26, .new 146, 3), (29, .dup, 1), (30, .ldc 232, 2), (32, .invokespecial 150, 3), (35, .athrow, 1), (36, .iload_n 2, 1), (37, .ireturn, 1)]
set_option maxRecDepth 20000 in
theorem xi_k104_ok : ∀ e ∈ xi_k104, decode prog_1_method_15_code e.1 = .ok e.2 := by decide +kernel

/-! POOLS, by program out of the words of the tables -/
def flX0 : List (Nat × Nat × Nat × FieldType × Bool) := [(11, 1, 0, .array (.object "PageBuilder$Item"), false), (17, 1, 1, .array .int, false), (24, 1, 6, .object "PageBuilder$Measure", false), (28, 1, 7, .array .boolean, false), (32, 1, 8, .array .boolean, false), (35, 1, 13, .object "PageBuilder$Measure", false), (38, 1, 2, .int, true), (42, 1, 3, .boolean, true), (46, 1, 4, .long, true), (50, 1, 5, .long, true), (57, 1, 9, .long, true), (62, 1, 10, .long, true), (65, 1, 11, .int, true), (68, 1, 12, .int, true), (71, 3, 1, .object "PageBuilder$Kind", false), (80, 107, 0, .boolean, false), (89, 3, 2, .int, false), (109, 3, 7, .object "PageBuilder$InsertClass", true), (128, 5, 4, .array .long, false), (132, 3, 5, .int, true), (135, 3, 4, .int, true), (137, 5, 3, .long, true), (140, 3, 6, .int, true), (142, 5, 0, .long, true), (145, 3, 3, .int, true), (148, 2, 0, .int, false), (153, 5, 1, .long, true), (156, 2, 3, .int, false), (162, 5, 5, .array .long, false), (169, 3, 9, .int, true), (172, 2, 4, .int, false), (175, 5, 2, .long, true), (177, 2, 1, .int, false), (180, 3, 8, .boolean, true), (189, 2, 2, .int, false)]
set_option maxRecDepth 20000 in
theorem flX0_ok : flX0.all (x_fchk RX0 false) = true := by decide +kernel
def flX0i : List (Nat × Nat × Nat × FieldType × Bool) := [(11, 1, 0, .array (.object "PageBuilder$Item"), true), (17, 1, 1, .array .int, true), (24, 1, 6, .object "PageBuilder$Measure", true), (28, 1, 7, .array .boolean, true), (32, 1, 8, .array .boolean, true), (35, 1, 13, .object "PageBuilder$Measure", true), (38, 1, 2, .int, true), (42, 1, 3, .boolean, true), (46, 1, 4, .long, true), (50, 1, 5, .long, true), (57, 1, 9, .long, true), (62, 1, 10, .long, true), (65, 1, 11, .int, true), (68, 1, 12, .int, true), (71, 3, 1, .object "PageBuilder$Kind", false), (80, 107, 0, .boolean, false), (89, 3, 2, .int, false), (109, 3, 7, .object "PageBuilder$InsertClass", true), (128, 5, 4, .array .long, false), (132, 3, 5, .int, true), (135, 3, 4, .int, true), (137, 5, 3, .long, true), (140, 3, 6, .int, true), (142, 5, 0, .long, true), (145, 3, 3, .int, true), (148, 2, 0, .int, false), (153, 5, 1, .long, true), (156, 2, 3, .int, false), (162, 5, 5, .array .long, false), (169, 3, 9, .int, true), (172, 2, 4, .int, false), (175, 5, 2, .long, true), (177, 2, 1, .int, false), (180, 3, 8, .boolean, true), (189, 2, 2, .int, false)]
set_option maxRecDepth 20000 in
theorem flX0i_ok : flX0i.all (x_fchk RX0 true) = true := by decide +kernel
def csX0 : List (Nat × Value) := [(60, .long 1073741823), (104, .int 1073741823), (105, .long 10000), (107, .long 100000), (192, .long 1000)]
set_option maxRecDepth 20000 in
theorem csX0_ok : csX0.all (x_cchk RX0) = true := by decide +kernel
def nwX0 : List (Nat × Nat × List Value) := [(21, 5, [.long 0, .long 0, .long 0, .long 0, .null, .null])]
set_option maxRecDepth 20000 in
theorem nwX0_ok : nwX0.all (x_nchk RX0) = true := by decide +kernel
def anX0 : List (Nat × Nat) := [(9, 103)]
set_option maxRecDepth 20000 in
theorem anX0_ok : anX0.all (x_achk RX0) = true := by decide +kernel
def saX0 : List (Nat × Nat) := [(75, 1), (83, 2), (86, 3), (117, 0), (1000000, 0), (1000001, 1), (1000002, 2), (1000003, 3), (1000004, 4), (1000005, 5)]
set_option maxRecDepth 20000 in
theorem saX0_ok : saX0.all (x_schk RX0) = true := by decide +kernel
def flX1 : List (Nat × Nat × Nat × FieldType × Bool) := [(7, 2, 0, .int, false), (13, 2, 1, .int, false), (16, 2, 2, .int, false), (19, 2, 3, .int, false), (22, 2, 4, .int, false)]
set_option maxRecDepth 20000 in
theorem flX1_ok : flX1.all (x_fchk RX1 false) = true := by decide +kernel
def flX1i : List (Nat × Nat × Nat × FieldType × Bool) := [(7, 2, 0, .int, true), (13, 2, 1, .int, true), (16, 2, 2, .int, true), (19, 2, 3, .int, true), (22, 2, 4, .int, true)]
set_option maxRecDepth 20000 in
theorem flX1i_ok : flX1i.all (x_fchk RX1 true) = true := by decide +kernel
def csX1 : List (Nat × Value) := [(25, .long 1000)]
set_option maxRecDepth 20000 in
theorem csX1_ok : csX1.all (x_cchk RX1) = true := by decide +kernel
def nwX1 : List (Nat × Nat × List Value) := []
set_option maxRecDepth 20000 in
theorem nwX1_ok : nwX1.all (x_nchk RX1) = true := by decide +kernel
def anX1 : List (Nat × Nat) := []
set_option maxRecDepth 20000 in
theorem anX1_ok : anX1.all (x_achk RX1) = true := by decide +kernel
def saX1 : List (Nat × Nat) := [(1000000, 0), (1000001, 1), (1000002, 2), (1000003, 3), (1000004, 4), (1000005, 5)]
set_option maxRecDepth 20000 in
theorem saX1_ok : saX1.all (x_schk RX1) = true := by decide +kernel
def flX2 : List (Nat × Nat × Nat × FieldType × Bool) := [(7, 3, 0, .int, false), (13, 3, 1, .object "PageBuilder$Kind", false), (17, 3, 2, .int, false), (25, 3, 10, .boolean, true), (29, 3, 11, .int, true), (32, 3, 12, .long, true), (39, 3, 9, .int, true)]
set_option maxRecDepth 20000 in
theorem flX2_ok : flX2.all (x_fchk RX2 false) = true := by decide +kernel
def flX2i : List (Nat × Nat × Nat × FieldType × Bool) := [(7, 3, 0, .int, true), (13, 3, 1, .object "PageBuilder$Kind", true), (17, 3, 2, .int, true), (25, 3, 10, .boolean, true), (29, 3, 11, .int, true), (32, 3, 12, .long, true), (39, 3, 9, .int, true)]
set_option maxRecDepth 20000 in
theorem flX2i_ok : flX2i.all (x_fchk RX2 true) = true := by decide +kernel
def csX2 : List (Nat × Value) := []
set_option maxRecDepth 20000 in
theorem csX2_ok : csX2.all (x_cchk RX2) = true := by decide +kernel
def nwX2 : List (Nat × Nat × List Value) := []
set_option maxRecDepth 20000 in
theorem nwX2_ok : nwX2.all (x_nchk RX2) = true := by decide +kernel
def anX2 : List (Nat × Nat) := []
set_option maxRecDepth 20000 in
theorem anX2_ok : anX2.all (x_achk RX2) = true := by decide +kernel
def saX2 : List (Nat × Nat) := [(20, 3), (36, 4), (1000000, 0), (1000001, 1), (1000002, 2), (1000003, 3), (1000004, 4), (1000005, 5)]
set_option maxRecDepth 20000 in
theorem saX2_ok : saX2.all (x_schk RX2) = true := by decide +kernel
def flX4 : List (Nat × Nat × Nat × FieldType × Bool) := [(11, 4, 0, .array (.object "PageBuilder$Item"), false), (17, 4, 2, .int, true), (21, 4, 1, .int, true)]
set_option maxRecDepth 20000 in
theorem flX4_ok : flX4.all (x_fchk RX4 false) = true := by decide +kernel
def flX4i : List (Nat × Nat × Nat × FieldType × Bool) := [(11, 4, 0, .array (.object "PageBuilder$Item"), true), (17, 4, 2, .int, true), (21, 4, 1, .int, true)]
set_option maxRecDepth 20000 in
theorem flX4i_ok : flX4i.all (x_fchk RX4 true) = true := by decide +kernel
def csX4 : List (Nat × Value) := []
set_option maxRecDepth 20000 in
theorem csX4_ok : csX4.all (x_cchk RX4) = true := by decide +kernel
def nwX4 : List (Nat × Nat × List Value) := []
set_option maxRecDepth 20000 in
theorem nwX4_ok : nwX4.all (x_nchk RX4) = true := by decide +kernel
def anX4 : List (Nat × Nat) := [(9, 103)]
set_option maxRecDepth 20000 in
theorem anX4_ok : anX4.all (x_achk RX4) = true := by decide +kernel
def saX4 : List (Nat × Nat) := [(1000000, 0), (1000001, 1), (1000002, 2), (1000003, 3), (1000004, 4), (1000005, 5)]
set_option maxRecDepth 20000 in
theorem saX4_ok : saX4.all (x_schk RX4) = true := by decide +kernel
def flX5 : List (Nat × Nat × Nat × FieldType × Bool) := [(9, 5, 4, .array .long, false), (15, 5, 5, .array .long, false), (18, 5, 0, .long, true), (22, 5, 1, .long, true), (25, 5, 2, .long, true), (28, 5, 3, .long, true)]
set_option maxRecDepth 20000 in
theorem flX5_ok : flX5.all (x_fchk RX5 false) = true := by decide +kernel
def flX5i : List (Nat × Nat × Nat × FieldType × Bool) := [(9, 5, 4, .array .long, true), (15, 5, 5, .array .long, true), (18, 5, 0, .long, true), (22, 5, 1, .long, true), (25, 5, 2, .long, true), (28, 5, 3, .long, true)]
set_option maxRecDepth 20000 in
theorem flX5i_ok : flX5i.all (x_fchk RX5 true) = true := by decide +kernel
def csX5 : List (Nat × Value) := [(31, .long (-1)), (33, .int 1073741823)]
set_option maxRecDepth 20000 in
theorem csX5_ok : csX5.all (x_cchk RX5) = true := by decide +kernel
def nwX5 : List (Nat × Nat × List Value) := []
set_option maxRecDepth 20000 in
theorem nwX5_ok : nwX5.all (x_nchk RX5) = true := by decide +kernel
def anX5 : List (Nat × Nat) := []
set_option maxRecDepth 20000 in
theorem anX5_ok : anX5.all (x_achk RX5) = true := by decide +kernel
def saX5 : List (Nat × Nat) := [(1000000, 0), (1000001, 1), (1000002, 2), (1000003, 3), (1000004, 4), (1000005, 5)]
set_option maxRecDepth 20000 in
theorem saX5_ok : saX5.all (x_schk RX5) = true := by decide +kernel
def flX6 : List (Nat × Nat × Nat × FieldType × Bool) := [(10, 6, 2, .object "PageBuilder$Measure", false), (16, 1, 11, .int, true), (22, 6, 0, .array .int, false), (26, 6, 1, .array .int, false), (29, 1, 0, .array (.object "PageBuilder$Item"), false), (33, 3, 0, .int, false), (38, 1, 1, .array .int, false), (39, 3, 1, .object "PageBuilder$Kind", false), (48, 3, 2, .int, false), (51, 1, 13, .object "PageBuilder$Measure", false), (58, 1, 10, .long, true), (62, 6, 3, .long, false), (63, 1, 12, .int, true), (66, 6, 4, .int, false), (69, 6, 5, .int, false), (72, 6, 6, .int, false), (75, 6, 7, .int, false)]
set_option maxRecDepth 20000 in
theorem flX6_ok : flX6.all (x_fchk RX6 false) = true := by decide +kernel
def flX6i : List (Nat × Nat × Nat × FieldType × Bool) := [(10, 6, 2, .object "PageBuilder$Measure", true), (16, 1, 11, .int, true), (22, 6, 0, .array .int, true), (26, 6, 1, .array .int, true), (29, 1, 0, .array (.object "PageBuilder$Item"), false), (33, 3, 0, .int, false), (38, 1, 1, .array .int, false), (39, 3, 1, .object "PageBuilder$Kind", false), (48, 3, 2, .int, false), (51, 1, 13, .object "PageBuilder$Measure", false), (58, 1, 10, .long, true), (62, 6, 3, .long, true), (63, 1, 12, .int, true), (66, 6, 4, .int, true), (69, 6, 5, .int, true), (72, 6, 6, .int, true), (75, 6, 7, .int, true)]
set_option maxRecDepth 20000 in
theorem flX6i_ok : flX6i.all (x_fchk RX6 true) = true := by decide +kernel
def csX6 : List (Nat × Value) := []
set_option maxRecDepth 20000 in
theorem csX6_ok : csX6.all (x_cchk RX6) = true := by decide +kernel
def nwX6 : List (Nat × Nat × List Value) := [(7, 5, [.long 0, .long 0, .long 0, .long 0, .null, .null])]
set_option maxRecDepth 20000 in
theorem nwX6_ok : nwX6.all (x_nchk RX6) = true := by decide +kernel
def anX6 : List (Nat × Nat) := []
set_option maxRecDepth 20000 in
theorem anX6_ok : anX6.all (x_achk RX6) = true := by decide +kernel
def saX6 : List (Nat × Nat) := [(43, 5), (1000000, 0), (1000001, 1), (1000002, 2), (1000003, 3), (1000004, 4), (1000005, 5)]
set_option maxRecDepth 20000 in
theorem saX6_ok : saX6.all (x_schk RX6) = true := by decide +kernel
def flX7 : List (Nat × Nat × Nat × FieldType × Bool) := [(11, 7, 0, .array (.object "PageBuilder$Item"), false), (17, 7, 2, .array (.object "PageBuilder$InsertClass"), false), (23, 7, 4, .array (.object "PageBuilder$Page"), false), (30, 7, 6, .object "PageBuilder$Line", false), (37, 7, 7, .object "PageBuilder$Draft", false), (41, 7, 8, .int, true), (45, 7, 9, .int, true), (48, 7, 10, .int, true), (60, 1, 2, .int, true), (63, 7, 3, .int, true), (70, 7, 1, .int, true), (82, 3, 3, .int, true), (93, 3, 4, .int, true), (96, 3, 5, .int, true), (99, 3, 6, .int, true), (111, 3, 7, .object "PageBuilder$InsertClass", true), (115, 3, 8, .boolean, true), (119, 3, 9, .int, true), (125, 7, 5, .int, true), (137, 6, 0, .array .int, false), (141, 6, 1, .array .int, false), (146, 6, 3, .long, false), (150, 6, 4, .int, false), (153, 6, 2, .object "PageBuilder$Measure", false), (157, 5, 5, .array .long, false), (174, 6, 5, .int, false), (177, 6, 6, .int, false), (180, 6, 7, .int, false), (187, 1, 10, .long, true), (188, 1, 9, .long, true), (191, 4, 2, .int, true), (192, 3, 0, .int, false), (195, 1, 6, .object "PageBuilder$Measure", false), (206, 1, 0, .array (.object "PageBuilder$Item"), false), (207, 3, 11, .int, true), (221, 1, 3, .boolean, true), (224, 3, 1, .object "PageBuilder$Kind", false), (227, 107, 0, .boolean, false), (254, 3, 10, .boolean, true), (266, 1, 11, .int, true), (272, 1, 1, .array .int, false)]
set_option maxRecDepth 20000 in
theorem flX7_ok : flX7.all (x_fchk RX7 false) = true := by decide +kernel
def flX7i : List (Nat × Nat × Nat × FieldType × Bool) := [(11, 7, 0, .array (.object "PageBuilder$Item"), true), (17, 7, 2, .array (.object "PageBuilder$InsertClass"), true), (23, 7, 4, .array (.object "PageBuilder$Page"), true), (30, 7, 6, .object "PageBuilder$Line", true), (37, 7, 7, .object "PageBuilder$Draft", true), (41, 7, 8, .int, true), (45, 7, 9, .int, true), (48, 7, 10, .int, true), (60, 1, 2, .int, true), (63, 7, 3, .int, true), (70, 7, 1, .int, true), (82, 3, 3, .int, true), (93, 3, 4, .int, true), (96, 3, 5, .int, true), (99, 3, 6, .int, true), (111, 3, 7, .object "PageBuilder$InsertClass", true), (115, 3, 8, .boolean, true), (119, 3, 9, .int, true), (125, 7, 5, .int, true), (137, 6, 0, .array .int, false), (141, 6, 1, .array .int, false), (146, 6, 3, .long, false), (150, 6, 4, .int, false), (153, 6, 2, .object "PageBuilder$Measure", false), (157, 5, 5, .array .long, false), (174, 6, 5, .int, false), (177, 6, 6, .int, false), (180, 6, 7, .int, false), (187, 1, 10, .long, true), (188, 1, 9, .long, true), (191, 4, 2, .int, true), (192, 3, 0, .int, false), (195, 1, 6, .object "PageBuilder$Measure", false), (206, 1, 0, .array (.object "PageBuilder$Item"), false), (207, 3, 11, .int, true), (221, 1, 3, .boolean, true), (224, 3, 1, .object "PageBuilder$Kind", false), (227, 107, 0, .boolean, false), (254, 3, 10, .boolean, true), (266, 1, 11, .int, true), (272, 1, 1, .array .int, false)]
set_option maxRecDepth 20000 in
theorem flX7i_ok : flX7i.all (x_fchk RX7 true) = true := by decide +kernel
def csX7 : List (Nat × Value) := [(55, .int 10000000), (69, .int 1000000), (89, .int (-1000000)), (128, .int 100000), (144, .long (-1)), (273, .long 7230584), (275, .long 297), (277, .long 1663497), (279, .long 1290), (281, .long 131072), (283, .long 262144)]
set_option maxRecDepth 20000 in
theorem csX7_ok : csX7.all (x_cchk RX7) = true := by decide +kernel
def nwX7 : List (Nat × Nat × List Value) := [(9, 3, [.int 0, .null, .int 0, .int 0, .int 0, .int 0, .int 0, .null, .int 0, .int 0, .int 0, .int 0, .long 0]), (15, 2, [.int 0, .int 0, .int 0, .int 0, .int 0]), (21, 6, [.null, .null, .null, .long 0, .int 0, .int 0, .int 0, .int 0]), (27, 4, [.null, .int 0, .int 0]), (34, 1, [.null, .null, .int 0, .int 0, .long 0, .long 0, .null, .null, .null, .long 0, .long 0, .int 0, .int 0, .null])]
set_option maxRecDepth 20000 in
theorem nwX7_ok : nwX7.all (x_nchk RX7) = true := by decide +kernel
def anX7 : List (Nat × Nat) := [(9, 103), (15, 104), (21, 105)]
set_option maxRecDepth 20000 in
theorem anX7_ok : anX7.all (x_achk RX7) = true := by decide +kernel
def saX7 : List (Nat × Nat) := [(73, 0), (90, 1), (102, 2), (105, 3), (108, 4), (122, 5), (1000000, 0), (1000001, 1), (1000002, 2), (1000003, 3), (1000004, 4), (1000005, 5)]
set_option maxRecDepth 20000 in
theorem saX7_ok : saX7.all (x_schk RX7) = true := by decide +kernel
def flX8 : List (Nat × Nat × Nat × FieldType × Bool) := [(7, 8, 2, .array .int, false), (13, 8, 3, .array .int, false), (16, 8, 4, .array .int, false), (19, 8, 5, .array .int, false), (22, 8, 6, .array .int, false), (25, 8, 8, .array .int, false), (28, 8, 9, .array .int, false), (31, 8, 10, .array .int, false), (34, 8, 11, .array .int, false), (37, 8, 12, .int, true), (41, 8, 16, .array .int, false), (44, 8, 17, .array .int, false), (47, 8, 19, .array .int, false), (50, 8, 20, .array .int, false), (53, 8, 21, .array .int, false), (56, 8, 22, .array .boolean, false), (60, 8, 24, .array .long, false), (64, 8, 28, .array .boolean, false), (67, 8, 29, .array .boolean, false), (70, 8, 35, .array .int, false), (73, 8, 36, .array .int, false), (76, 8, 37, .array .int, false), (79, 8, 38, .array .long, false), (82, 8, 39, .array .long, false), (85, 8, 40, .array .int, false), (88, 8, 41, .array .int, false), (91, 8, 43, .array .int, false), (94, 8, 44, .array .int, false), (100, 8, 0, .int, true), (109, 8, 13, .int, true), (112, 8, 14, .int, true), (115, 8, 18, .int, true), (122, 8, 7, .int, true), (125, 8, 1, .int, true), (128, 8, 15, .int, true), (143, 8, 23, .boolean, true), (147, 8, 25, .int, true), (150, 8, 26, .int, true), (153, 8, 27, .long, true), (157, 8, 30, .boolean, true), (184, 8, 32, .long, true), (187, 8, 31, .int, true), (190, 8, 33, .int, true), (205, 8, 34, .int, true), (208, 8, 42, .int, true)]
set_option maxRecDepth 20000 in
theorem flX8_ok : flX8.all (x_fchk RX8 false) = true := by decide +kernel
def flX8i : List (Nat × Nat × Nat × FieldType × Bool) := [(7, 8, 2, .array .int, true), (13, 8, 3, .array .int, true), (16, 8, 4, .array .int, true), (19, 8, 5, .array .int, true), (22, 8, 6, .array .int, true), (25, 8, 8, .array .int, true), (28, 8, 9, .array .int, true), (31, 8, 10, .array .int, true), (34, 8, 11, .array .int, true), (37, 8, 12, .int, true), (41, 8, 16, .array .int, true), (44, 8, 17, .array .int, true), (47, 8, 19, .array .int, true), (50, 8, 20, .array .int, true), (53, 8, 21, .array .int, true), (56, 8, 22, .array .boolean, true), (60, 8, 24, .array .long, true), (64, 8, 28, .array .boolean, true), (67, 8, 29, .array .boolean, true), (70, 8, 35, .array .int, true), (73, 8, 36, .array .int, true), (76, 8, 37, .array .int, true), (79, 8, 38, .array .long, true), (82, 8, 39, .array .long, true), (85, 8, 40, .array .int, true), (88, 8, 41, .array .int, true), (91, 8, 43, .array .int, true), (94, 8, 44, .array .int, true), (100, 8, 0, .int, true), (109, 8, 13, .int, true), (112, 8, 14, .int, true), (115, 8, 18, .int, true), (122, 8, 7, .int, true), (125, 8, 1, .int, true), (128, 8, 15, .int, true), (143, 8, 23, .boolean, true), (147, 8, 25, .int, true), (150, 8, 26, .int, true), (153, 8, 27, .long, true), (157, 8, 30, .boolean, true), (184, 8, 32, .long, true), (187, 8, 31, .int, true), (190, 8, 33, .int, true), (205, 8, 34, .int, true), (208, 8, 42, .int, true)]
set_option maxRecDepth 20000 in
theorem flX8i_ok : flX8i.all (x_fchk RX8 true) = true := by decide +kernel
def csX8 : List (Nat × Value) := [(103, .long 10000000), (118, .long 2000), (120, .long 10000), (131, .long 1000000), (137, .long (-1000000)), (139, .long 3), (141, .long (-10000)), (160, .long 7230584), (162, .long 297), (164, .long 1663497), (166, .long 1290), (168, .long 131072), (170, .long 262144), (172, .long 1073741823), (178, .long 100000), (200, .long 1000), (232, .long (-1))]
set_option maxRecDepth 20000 in
theorem csX8_ok : csX8.all (x_cchk RX8) = true := by decide +kernel
def nwX8 : List (Nat × Nat × List Value) := []
set_option maxRecDepth 20000 in
theorem nwX8_ok : nwX8.all (x_nchk RX8) = true := by decide +kernel
def anX8 : List (Nat × Nat) := []
set_option maxRecDepth 20000 in
theorem anX8_ok : anX8.all (x_achk RX8) = true := by decide +kernel
def saX8 : List (Nat × Nat) := [(1000000, 0), (1000001, 1), (1000002, 2), (1000003, 3), (1000004, 4), (1000005, 5)]
set_option maxRecDepth 20000 in
theorem saX8_ok : saX8.all (x_schk RX8) = true := by decide +kernel
def flL : List (Nat × Nat × Nat × FieldType × Bool) := []
set_option maxRecDepth 20000 in
theorem flL_ok : flL.all (x_fchk RL false) = true := by decide +kernel
def flLi : List (Nat × Nat × Nat × FieldType × Bool) := []
set_option maxRecDepth 20000 in
theorem flLi_ok : flLi.all (x_fchk RL true) = true := by decide +kernel
def csL : List (Nat × Value) := []
set_option maxRecDepth 20000 in
theorem csL_ok : csL.all (x_cchk RL) = true := by decide +kernel
def nwL : List (Nat × Nat × List Value) := []
set_option maxRecDepth 20000 in
theorem nwL_ok : nwL.all (x_nchk RL) = true := by decide +kernel
def anL : List (Nat × Nat) := []
set_option maxRecDepth 20000 in
theorem anL_ok : anL.all (x_achk RL) = true := by decide +kernel
def saL : List (Nat × Nat) := [(1000000, 0), (1000001, 1), (1000002, 2), (1000003, 3), (1000004, 4), (1000005, 5)]
set_option maxRecDepth 20000 in
theorem saL_ok : saL.all (x_schk RL) = true := by decide +kernel

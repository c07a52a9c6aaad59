-- ===== by hand: season =====
theorem f1_0 : aF 0 zM1.2.2.2.2.2.2.2 = some (0, (.aload_n 0), 1, 0, 0) := by decide +kernel
theorem f1_1 : aF 1 zM1.2.2.2.2.2.2.2 = some (1, (.getfield 33), 3, 0, 0) := by decide +kernel
theorem f1_4 : aF 4 zM1.2.2.2.2.2.2.2 = some (4, (.getfield 45), 3, 6, 1) := by decide +kernel
theorem f1_7 : aF 7 zM1.2.2.2.2.2.2.2 = some (7, (.aload_n 0), 1, 0, 0) := by decide +kernel
theorem f1_8 : aF 8 zM1.2.2.2.2.2.2.2 = some (8, (.getfield 33), 3, 0, 0) := by decide +kernel
theorem f1_11 : aF 11 zM1.2.2.2.2.2.2.2 = some (11, (.getfield 51), 3, 6, 5) := by decide +kernel
theorem f1_14 : aF 14 zM1.2.2.2.2.2.2.2 = some (14, .iadd, 1, 0, 0) := by decide +kernel
theorem f1_15 : aF 15 zM1.2.2.2.2.2.2.2 = some (15, (.aload_n 0), 1, 0, 0) := by decide +kernel
theorem f1_16 : aF 16 zM1.2.2.2.2.2.2.2 = some (16, (.getfield 37), 3, 0, 1) := by decide +kernel
theorem f1_19 : aF 19 zM1.2.2.2.2.2.2.2 = some (19, (.getfield 54), 3, 2, 1) := by decide +kernel
theorem f1_22 : aF 22 zM1.2.2.2.2.2.2.2 = some (22, .iadd, 1, 0, 0) := by decide +kernel
theorem f1_23 : aF 23 zM1.2.2.2.2.2.2.2 = some (23, (.aload_n 0), 1, 0, 0) := by decide +kernel
theorem f1_24 : aF 24 zM1.2.2.2.2.2.2.2 = some (24, (.getfield 37), 3, 0, 1) := by decide +kernel
theorem f1_27 : aF 27 zM1.2.2.2.2.2.2.2 = some (27, (.getfield 57), 3, 2, 2) := by decide +kernel
theorem f1_30 : aF 30 zM1.2.2.2.2.2.2.2 = some (30, .iadd, 1, 0, 0) := by decide +kernel
theorem f1_31 : aF 31 zM1.2.2.2.2.2.2.2 = some (31, (.aload_n 0), 1, 0, 0) := by decide +kernel
theorem f1_32 : aF 32 zM1.2.2.2.2.2.2.2 = some (32, (.getfield 37), 3, 0, 1) := by decide +kernel
theorem f1_35 : aF 35 zM1.2.2.2.2.2.2.2 = some (35, (.getfield 60), 3, 2, 3) := by decide +kernel
theorem f1_38 : aF 38 zM1.2.2.2.2.2.2.2 = some (38, .iadd, 1, 0, 0) := by decide +kernel
theorem f1_39 : aF 39 zM1.2.2.2.2.2.2.2 = some (39, (.istore_n 3), 1, 0, 0) := by decide +kernel
theorem f1_40 : aF 40 zM1.2.2.2.2.2.2.2 = some (40, (.aload_n 0), 1, 0, 0) := by decide +kernel
theorem f1_41 : aF 41 zM1.2.2.2.2.2.2.2 = some (41, (.getfield 11), 3, 0, 3) := by decide +kernel
theorem f1_44 : aF 44 zM1.2.2.2.2.2.2.2 = some (44, (.iload_n 1), 1, 0, 0) := by decide +kernel
theorem f1_45 : aF 45 zM1.2.2.2.2.2.2.2 = some (45, .aaload, 1, 0, 0) := by decide +kernel
theorem f1_46 : aF 46 zM1.2.2.2.2.2.2.2 = some (46, (.astore 4), 2, 0, 0) := by decide +kernel
theorem f1_48 : aF 48 zM1.2.2.2.2.2.2.2 = some (48, (.aload 4), 2, 0, 0) := by decide +kernel
theorem f1_50 : aF 50 zM1.2.2.2.2.2.2.2 = some (50, (.ifnonnull 29), 3, 79, 0) := by decide +kernel
theorem f1_53 : aF 53 zM1.2.2.2.2.2.2.2 = some (53, (.new 9), 3, 8, 0) := by decide +kernel
theorem f1_56 : aF 56 zM1.2.2.2.2.2.2.2 = some (56, .dup, 1, 0, 0) := by decide +kernel
theorem f1_57 : aF 57 zM1.2.2.2.2.2.2.2 = some (57, (.aload_n 0), 1, 0, 0) := by decide +kernel
theorem f1_58 : aF 58 zM1.2.2.2.2.2.2.2 = some (58, (.getfield 33), 3, 0, 0) := by decide +kernel
theorem f1_61 : aF 61 zM1.2.2.2.2.2.2.2 = some (61, (.aload_n 0), 1, 0, 0) := by decide +kernel
theorem f1_62 : aF 62 zM1.2.2.2.2.2.2.2 = some (62, (.getfield 37), 3, 0, 1) := by decide +kernel
theorem f1_65 : aF 65 zM1.2.2.2.2.2.2.2 = some (65, (.iload_n 1), 1, 0, 0) := by decide +kernel
theorem f1_66 : aF 66 zM1.2.2.2.2.2.2.2 = some (66, (.invokespecial 63), 3, 96, 0) := by decide +kernel
theorem f1_69 : aF 69 zM1.2.2.2.2.2.2.2 = some (69, (.astore 4), 2, 0, 0) := by decide +kernel
theorem f1_71 : aF 71 zM1.2.2.2.2.2.2.2 = some (71, (.aload_n 0), 1, 0, 0) := by decide +kernel
theorem f1_72 : aF 72 zM1.2.2.2.2.2.2.2 = some (72, (.getfield 11), 3, 0, 3) := by decide +kernel
theorem f1_75 : aF 75 zM1.2.2.2.2.2.2.2 = some (75, (.iload_n 1), 1, 0, 0) := by decide +kernel
theorem f1_76 : aF 76 zM1.2.2.2.2.2.2.2 = some (76, (.aload 4), 2, 0, 0) := by decide +kernel
theorem f1_78 : aF 78 zM1.2.2.2.2.2.2.2 = some (78, .aastore, 1, 0, 0) := by decide +kernel
theorem f1_79 : aF 79 zM1.2.2.2.2.2.2.2 = some (79, (.aload 4), 2, 0, 0) := by decide +kernel
theorem f1_81 : aF 81 zM1.2.2.2.2.2.2.2 = some (81, (.getfield 66), 3, 8, 3) := by decide +kernel
theorem f1_84 : aF 84 zM1.2.2.2.2.2.2.2 = some (84, (.iload_n 2), 1, 0, 0) := by decide +kernel
theorem f1_85 : aF 85 zM1.2.2.2.2.2.2.2 = some (85, (.if_icmp .ne 12), 3, 97, 0) := by decide +kernel
theorem f1_88 : aF 88 zM1.2.2.2.2.2.2.2 = some (88, (.aload 4), 2, 0, 0) := by decide +kernel
theorem f1_90 : aF 90 zM1.2.2.2.2.2.2.2 = some (90, (.getfield 69), 3, 8, 4) := by decide +kernel
theorem f1_93 : aF 93 zM1.2.2.2.2.2.2.2 = some (93, (.iload_n 3), 1, 0, 0) := by decide +kernel
theorem f1_94 : aF 94 zM1.2.2.2.2.2.2.2 = some (94, (.if_icmp .eq 10), 3, 104, 0) := by decide +kernel
theorem f1_97 : aF 97 zM1.2.2.2.2.2.2.2 = some (97, (.aload 4), 2, 0, 0) := by decide +kernel
theorem f1_99 : aF 99 zM1.2.2.2.2.2.2.2 = some (99, (.iload_n 2), 1, 0, 0) := by decide +kernel
theorem f1_100 : aF 100 zM1.2.2.2.2.2.2.2 = some (100, (.iload_n 3), 1, 0, 0) := by decide +kernel
theorem f1_101 : aF 101 zM1.2.2.2.2.2.2.2 = some (101, (.invokevirtual 72), 3, 97, 0) := by decide +kernel
theorem f1_104 : aF 104 zM1.2.2.2.2.2.2.2 = some (104, (.aload 4), 2, 0, 0) := by decide +kernel
theorem f1_106 : aF 106 zM1.2.2.2.2.2.2.2 = some (106, .areturn, 1, 0, 0) := by decide +kernel
theorem f96_0 : aF 0 zM96.2.2.2.2.2.2.2 = some (0, (.aload_n 0), 1, 0, 0) := by decide +kernel
theorem f96_1 : aF 1 zM96.2.2.2.2.2.2.2 = some (1, (.invokespecial 3), 3, 1000, 0) := by decide +kernel
theorem f96_4 : aF 4 zM96.2.2.2.2.2.2.2 = some (4, (.aload_n 0), 1, 0, 0) := by decide +kernel
theorem f96_5 : aF 5 zM96.2.2.2.2.2.2.2 = some (5, (.iconst (-1)), 1, 0, 0) := by decide +kernel
theorem f96_6 : aF 6 zM96.2.2.2.2.2.2.2 = some (6, (.putfield 9), 3, 8, 3) := by decide +kernel
theorem f96_9 : aF 9 zM96.2.2.2.2.2.2.2 = some (9, (.aload_n 0), 1, 0, 0) := by decide +kernel
theorem f96_10 : aF 10 zM96.2.2.2.2.2.2.2 = some (10, (.iconst (-1)), 1, 0, 0) := by decide +kernel
theorem f96_11 : aF 11 zM96.2.2.2.2.2.2.2 = some (11, (.putfield 15), 3, 8, 4) := by decide +kernel
theorem f96_14 : aF 14 zM96.2.2.2.2.2.2.2 = some (14, (.aload_n 0), 1, 0, 0) := by decide +kernel
theorem f96_15 : aF 15 zM96.2.2.2.2.2.2.2 = some (15, (.sipush 300), 3, 0, 0) := by decide +kernel
theorem f96_18 : aF 18 zM96.2.2.2.2.2.2.2 = some (18, (.newarray .int), 2, 0, 0) := by decide +kernel
theorem f96_20 : aF 20 zM96.2.2.2.2.2.2.2 = some (20, (.putfield 18), 3, 8, 6) := by decide +kernel
theorem f96_23 : aF 23 zM96.2.2.2.2.2.2.2 = some (23, (.aload_n 0), 1, 0, 0) := by decide +kernel
theorem f96_24 : aF 24 zM96.2.2.2.2.2.2.2 = some (24, (.sipush 300), 3, 0, 0) := by decide +kernel
theorem f96_27 : aF 27 zM96.2.2.2.2.2.2.2 = some (27, (.newarray .int), 2, 0, 0) := by decide +kernel
theorem f96_29 : aF 29 zM96.2.2.2.2.2.2.2 = some (29, (.putfield 22), 3, 8, 7) := by decide +kernel
theorem f96_32 : aF 32 zM96.2.2.2.2.2.2.2 = some (32, (.aload_n 0), 1, 0, 0) := by decide +kernel
theorem f96_33 : aF 33 zM96.2.2.2.2.2.2.2 = some (33, (.sipush 300), 3, 0, 0) := by decide +kernel
theorem f96_36 : aF 36 zM96.2.2.2.2.2.2.2 = some (36, (.newarray .int), 2, 0, 0) := by decide +kernel
theorem f96_38 : aF 38 zM96.2.2.2.2.2.2.2 = some (38, (.putfield 25), 3, 8, 8) := by decide +kernel
theorem f96_41 : aF 41 zM96.2.2.2.2.2.2.2 = some (41, (.aload_n 0), 1, 0, 0) := by decide +kernel
theorem f96_42 : aF 42 zM96.2.2.2.2.2.2.2 = some (42, (.bipush 24), 2, 0, 0) := by decide +kernel
theorem f96_44 : aF 44 zM96.2.2.2.2.2.2.2 = some (44, (.newarray .int), 2, 0, 0) := by decide +kernel
theorem f96_46 : aF 46 zM96.2.2.2.2.2.2.2 = some (46, (.putfield 28), 3, 8, 9) := by decide +kernel
theorem f96_49 : aF 49 zM96.2.2.2.2.2.2.2 = some (49, (.aload_n 0), 1, 0, 0) := by decide +kernel
theorem f96_50 : aF 50 zM96.2.2.2.2.2.2.2 = some (50, (.sipush 150), 3, 0, 0) := by decide +kernel
theorem f96_53 : aF 53 zM96.2.2.2.2.2.2.2 = some (53, (.newarray .int), 2, 0, 0) := by decide +kernel
theorem f96_55 : aF 55 zM96.2.2.2.2.2.2.2 = some (55, (.putfield 31), 3, 8, 10) := by decide +kernel
theorem f96_58 : aF 58 zM96.2.2.2.2.2.2.2 = some (58, (.aload_n 0), 1, 0, 0) := by decide +kernel
theorem f96_59 : aF 59 zM96.2.2.2.2.2.2.2 = some (59, (.sipush 150), 3, 0, 0) := by decide +kernel
theorem f96_62 : aF 62 zM96.2.2.2.2.2.2.2 = some (62, (.newarray .int), 2, 0, 0) := by decide +kernel
theorem f96_64 : aF 64 zM96.2.2.2.2.2.2.2 = some (64, (.putfield 34), 3, 8, 11) := by decide +kernel
theorem f96_67 : aF 67 zM96.2.2.2.2.2.2.2 = some (67, (.aload_n 0), 1, 0, 0) := by decide +kernel
theorem f96_68 : aF 68 zM96.2.2.2.2.2.2.2 = some (68, (.sipush 150), 3, 0, 0) := by decide +kernel
theorem f96_71 : aF 71 zM96.2.2.2.2.2.2.2 = some (71, (.newarray .int), 2, 0, 0) := by decide +kernel
theorem f96_73 : aF 73 zM96.2.2.2.2.2.2.2 = some (73, (.putfield 37), 3, 8, 12) := by decide +kernel
theorem f96_76 : aF 76 zM96.2.2.2.2.2.2.2 = some (76, (.aload_n 0), 1, 0, 0) := by decide +kernel
theorem f96_77 : aF 77 zM96.2.2.2.2.2.2.2 = some (77, (.aload_n 1), 1, 0, 0) := by decide +kernel
theorem f96_78 : aF 78 zM96.2.2.2.2.2.2.2 = some (78, (.putfield 40), 3, 8, 0) := by decide +kernel
theorem f96_81 : aF 81 zM96.2.2.2.2.2.2.2 = some (81, (.aload_n 0), 1, 0, 0) := by decide +kernel
theorem f96_82 : aF 82 zM96.2.2.2.2.2.2.2 = some (82, (.aload_n 2), 1, 0, 0) := by decide +kernel
theorem f96_83 : aF 83 zM96.2.2.2.2.2.2.2 = some (83, (.putfield 44), 3, 8, 1) := by decide +kernel
theorem f96_86 : aF 86 zM96.2.2.2.2.2.2.2 = some (86, (.aload_n 0), 1, 0, 0) := by decide +kernel
theorem f96_87 : aF 87 zM96.2.2.2.2.2.2.2 = some (87, (.iload_n 3), 1, 0, 0) := by decide +kernel
theorem f96_88 : aF 88 zM96.2.2.2.2.2.2.2 = some (88, (.putfield 48), 3, 8, 2) := by decide +kernel
theorem f96_91 : aF 91 zM96.2.2.2.2.2.2.2 = some (91, .return_, 1, 0, 0) := by decide +kernel
def cC340 : cC := (332, 0, [(148, 0)], ([(3, 1000, .ofNat 0), (1, 1, .ofNat 0), (0, 0, .ofNat 0), (0, 0, .ofNat 0)], [], ([(.ofNat 0, .ofNat 0), (.ofNat 0, .ofNat 1)], [], [], [148], [], [], [])), [([], [], ([(.ofNat 0, .ofNat 0)], [], [], [], [], [], []))], [(5, ([(3, 1000, .ofNat 0), (1, 1, .ofNat 0), (1, 2, .ofNat 0), (1, 0, .ofNat 300)], [], ([(.ofNat 0, .ofNat 0), (.ofNat 0, .ofNat 1), (.ofNat 0, .ofNat 300)], [], [], [148], [], [], [])), (.ofNat 300, [(.negSucc 0, 2)]))])
def cC341 : cC := (103, 1, [], ([(3, 1000, .ofNat 0), (1, 1, .ofNat 0), (0, 0, .ofNat 0), (0, 0, .ofNat 0), (0, 0, .ofNat 0), (0, 0, .ofNat 0)], [], ([(.ofNat 0, .ofNat 0), (.ofNat 0, .ofNat 23)], [], [], [146], [], [], [])), [([], [(1, 1, .ofNat 0)], ([(.ofNat 0, .ofNat 0), (.negSucc 2147483647, .ofNat 2147483647)], [], [], [], [], [], []))], [(10, ([(3, 1000, .ofNat 0), (1, 1, .ofNat 0), (1, 2, .ofNat 0), (1, 3, .ofNat 0), (1, 4, .ofNat 0), (1, 5, .ofNat 0)], [], ([(.ofNat 0, .ofNat 0), (.ofNat 0, .ofNat 23), (.negSucc 2147483647, .ofNat 2147483647), (.negSucc 2147483647, .ofNat 2147483647), (.negSucc 2147483647, .ofNat 2147483647), (.ofNat 0, .ofNat 300)], [], [], [146], [], [], [])), (.ofNat 300, [(.negSucc 0, 5)]))])
def cC342 : cC := (33, 0, [], ([(3, 16, .ofNat 0), (1, 1, .ofNat 0), (1, 2, .ofNat 0), (1, 3, .ofNat 0), (0, 0, .ofNat 0), (0, 0, .ofNat 0), (0, 0, .ofNat 0)], [], ([(.ofNat 0, .ofNat 0), (.ofNat 0, .ofNat 23), (.ofNat 0, .ofNat 9), (.negSucc 2147483647, .ofNat 2147483647)], [], [], [], [], [], [])), [([], [(1, 1, .ofNat 0)], ([(.ofNat 0, .ofNat 0), (.negSucc 2147483647, .ofNat 2147483647)], [], [], [], [], [], []))], [(6, ([(3, 16, .ofNat 0), (1, 1, .ofNat 0), (1, 2, .ofNat 0), (1, 3, .ofNat 0), (1, 4, .ofNat 0), (1, 5, .ofNat 0), (0, 0, .ofNat 0)], [], ([(.ofNat 0, .ofNat 0), (.ofNat 0, .ofNat 23), (.ofNat 0, .ofNat 9), (.negSucc 2147483647, .ofNat 2147483647), (.negSucc 2147483647, .ofNat 2147483647), (.ofNat 0, .ofNat 40)], [], [], [], [], [], [])), (.ofNat 40, [(.negSucc 0, 5)]))])
def cC343 : cC := (104, 1, [(148, 0)], ([(3, 1000, .ofNat 0), (1, 1, .ofNat 0), (0, 0, .ofNat 0), (0, 0, .ofNat 0), (0, 0, .ofNat 0), (0, 0, .ofNat 0)], [], ([(.ofNat 0, .ofNat 0), (.ofNat 0, .ofNat 23)], [], [], [146], [], [], [])), [([], [], ([(.ofNat 0, .ofNat 0)], [], [], [], [], [], []))], [(29, ([(3, 1000, .ofNat 0), (1, 1, .ofNat 0), (1, 2, .ofNat 0), (1, 3, .ofNat 0), (1, 4, .ofNat 0), (0, 0, .ofNat 0)], [], ([(.ofNat 0, .ofNat 0), (.ofNat 0, .ofNat 23), (.negSucc 2147483647, .ofNat 2147483647), (.negSucc 2147483647, .ofNat 2147483647), (.ofNat 0, .ofNat 300), (.negSucc 2147483647, .ofNat 2147483647), (.ofNat 0, .ofNat 9)], [], [], [146, 150], [(1000, 3, 1, 5, .ofNat 0), (1000, 2, 1, 6, .ofNat 0), (1000, 9, 3, 1001, .ofNat 0)], [], [])), (.ofNat 300, [(.negSucc 0, 4)]))])
def cC344 : cC := (332, 0, [(151, 0)], ([(3, 1000, .ofNat 0), (1, 1, .ofNat 0), (0, 0, .ofNat 0), (0, 0, .ofNat 0)], [], ([(.ofNat 0, .ofNat 0), (.ofNat 0, .ofNat 1)], [], [], [151], [], [], [])), [([], [], ([(.ofNat 0, .ofNat 0)], [], [], [], [], [], []))], [(5, ([(3, 1000, .ofNat 0), (1, 1, .ofNat 0), (1, 2, .ofNat 0), (1, 0, .ofNat 150)], [], ([(.ofNat 0, .ofNat 0), (.ofNat 0, .ofNat 1), (.ofNat 0, .ofNat 150)], [], [], [151], [], [], [])), (.ofNat 150, [(.negSucc 0, 2)]))])
def cC345 : cC := (332, 0, [(152, 0)], ([(3, 1000, .ofNat 0), (1, 1, .ofNat 0), (0, 0, .ofNat 0), (0, 0, .ofNat 0)], [], ([(.ofNat 0, .ofNat 0), (.ofNat 0, .ofNat 1)], [], [], [152], [], [], [])), [([], [], ([(.ofNat 0, .ofNat 0)], [], [], [], [], [], []))], [(5, ([(3, 1000, .ofNat 0), (1, 1, .ofNat 0), (1, 2, .ofNat 0), (1, 0, .ofNat 150)], [], ([(.ofNat 0, .ofNat 0), (.ofNat 0, .ofNat 1), (.ofNat 0, .ofNat 150)], [], [], [152], [], [], [])), (.ofNat 150, [(.negSucc 0, 2)]))])
def cC346 : cC := (332, 0, [(153, 0)], ([(3, 1000, .ofNat 0), (1, 1, .ofNat 0), (0, 0, .ofNat 0), (0, 0, .ofNat 0)], [], ([(.ofNat 0, .ofNat 0), (.negSucc 0, .ofNat 1)], [], [], [153], [], [], [])), [([], [], ([(.ofNat 0, .ofNat 0)], [], [], [], [], [], []))], [(5, ([(3, 1000, .ofNat 0), (1, 1, .ofNat 0), (1, 2, .ofNat 0), (1, 0, .ofNat 150)], [], ([(.ofNat 0, .ofNat 0), (.negSucc 0, .ofNat 1), (.ofNat 0, .ofNat 150)], [], [], [153], [], [], [])), (.ofNat 150, [(.negSucc 0, 2)]))])
def cC347 : cC := (35, 0, [], ([(3, 16, .ofNat 0), (1, 1, .ofNat 0), (1, 2, .ofNat 0), (1, 3, .ofNat 0), (0, 0, .ofNat 0), (0, 0, .ofNat 0)], [], ([(.ofNat 0, .ofNat 0), (.ofNat 0, .ofNat 299), (.ofNat 0, .ofNat 9), (.negSucc 2147483647, .ofNat 2147483647)], [], [], [], [], [], [])), [([], [(1, 1, .ofNat 0)], ([(.ofNat 0, .ofNat 0), (.negSucc 2147483647, .ofNat 2147483647)], [], [], [], [], [], []))], [(8, ([(3, 16, .ofNat 0), (1, 1, .ofNat 0), (1, 2, .ofNat 0), (1, 3, .ofNat 0), (1, 4, .negSucc 0), (0, 0, .ofNat 0)], [], ([(.ofNat 0, .ofNat 0), (.ofNat 0, .ofNat 299), (.ofNat 0, .ofNat 9), (.negSucc 2147483647, .ofNat 2147483647), (.ofNat 0, .ofNat 200), (.ofNat 0, .ofNat 200)], [], [], [], [(16, 3, 1, 5, .ofNat 0)], [], [])), (.ofNat 0, [(.ofNat 1, 4)]))])
def cC348 : cC := (105, 1, [(149, 0), (151, 0), (152, 0), (153, 0)], ([(3, 1000, .ofNat 0), (0, 0, .ofNat 0), (0, 0, .ofNat 0)], [], ([(.ofNat 0, .ofNat 0)], [], [], [146], [], [], [])), [([], [], ([(.ofNat 0, .ofNat 0)], [], [], [], [], [], []))], [(26, ([(3, 1000, .ofNat 0), (1, 1, .ofNat 0), (0, 0, .ofNat 0)], [], ([(.ofNat 0, .ofNat 0), (.ofNat 0, .ofNat 300)], [], [], [146, 153, 152, 151], [(1000, 12, 3, 1001, .ofNat 0), (1000, 11, 3, 1002, .ofNat 0), (1000, 10, 3, 1003, .ofNat 0)], [], [])), (.ofNat 300, [(.negSucc 0, 1)]))])
def cC349 : cC := (97, 2, [(146, 3), (146, 4), (146, 5), (147, 0), (148, 0), (149, 0), (150, 0), (151, 0), (152, 0), (153, 0)], ([(3, 1000, .ofNat 0), (1, 1, .ofNat 0), (1, 2, .ofNat 0), (0, 0, .ofNat 0)], [], ([(.ofNat 0, .ofNat 0), (.ofNat 0, .ofNat 3649), (.negSucc 2147483647, .ofNat 2147483647)], [], [], [146], [], [], [])), [([], [], ([(.ofNat 0, .ofNat 0)], [], [], [], [], [], []))], [(17, ([(3, 1000, .ofNat 0), (1, 1, .ofNat 0), (1, 2, .ofNat 0), (1, 3, .ofNat 0)], [], ([(.ofNat 0, .ofNat 0), (.ofNat 0, .ofNat 3649), (.negSucc 2147483647, .ofNat 2147483647), (.ofNat 0, .ofNat 300), (.ofNat 0, .ofNat 300)], [(4, 3, .ofNat 0)], [], [146], [(1000, 5, 1, 4, .ofNat 0), (1000, 4, 1, 2, .ofNat 0), (1000, 3, 1, 1, .ofNat 0)], [], [])), (.ofNat 325, [(.negSucc 0, 3)])), (91, ([(3, 1000, .ofNat 0), (1, 1, .ofNat 0), (1, 2, .ofNat 0), (1, 3, .ofNat 0)], [], ([(.ofNat 0, .ofNat 0), (.ofNat 0, .ofNat 3649), (.negSucc 2147483647, .ofNat 2147483647), (.ofNat 0, .ofNat 24), (.ofNat 0, .ofNat 300), (.ofNat 0, .ofNat 300)], [], [], [146, 148], [(1000, 7, 3, 1001, .ofNat 0), (16, 1, 1, 4, .ofNat 0), (1000, 5, 1, 5, .ofNat 0), (1000, 4, 1, 2, .ofNat 0), (1000, 3, 1, 1, .ofNat 0)], [], [])), (.ofNat 24, [(.negSucc 0, 3)]))])
def cCTs : List cC := [cC340, cC341, cC342, cC343, cC344, cC345, cC346, cC347, cC348, cC349]
def cCMs : List (List Nat) := ((((((((List.replicate 333 []).set 33 [2]).set 35 [7]).set 97 [9]).set 103 [1]).set 104 [3]).set 105 [8]).set 332 [0, 4, 5, 6])
theorem cs_0 : cchk cCTs cCMs 3000 0 = true := by decide +kernel
theorem cs_1 : cchk cCTs cCMs 3000 1 = true := by decide +kernel
theorem cs_2 : cchk cCTs cCMs 3000 2 = true := by decide +kernel
theorem cs_3 : cchk cCTs cCMs 3000 3 = true := by decide +kernel
theorem cs_4 : cchk cCTs cCMs 3000 4 = true := by decide +kernel
theorem cs_5 : cchk cCTs cCMs 3000 5 = true := by decide +kernel
theorem cs_6 : cchk cCTs cCMs 3000 6 = true := by decide +kernel
theorem cs_7 : cchk cCTs cCMs 3000 7 = true := by decide +kernel
theorem cs_8 : cchk cCTs cCMs 3000 8 = true := by decide +kernel
theorem cs_9 : cchk cCTs cCMs 3000 9 = true := by decide +kernel
theorem cCMs_t : cCMt cCTs cCMs = true := by decide +kernel
theorem hT_s {X : aX} (hX : X 0 = some (8, zab)) : hT X cCTs 10 := by
  have g0 : hT X cCTs 0 := fun j hj => absurd hj (by omega)
  have g1 := tstep hX cCMs_t g0 cs_0
  have g2 := tstep hX cCMs_t g1 cs_1
  have g3 := tstep hX cCMs_t g2 cs_2
  have g4 := tstep hX cCMs_t g3 cs_3
  have g5 := tstep hX cCMs_t g4 cs_4
  have g6 := tstep hX cCMs_t g5 cs_5
  have g7 := tstep hX cCMs_t g6 cs_6
  have g8 := tstep hX cCMs_t g7 cs_7
  have g9 := tstep hX cCMs_t g8 cs_8
  have g10 := tstep hX cCMs_t g9 cs_9
  exact g10
section WE
variable {X : aX} {D : Nat} {M : aM} {Q : Option Value → aH → Prop} {pc len a b : Nat} {L : aL} {r : List Value}
theorem w_putE {l rest : List aC} {u ix : Nat} {fs : List Value} {v : Value} (hf : aF pc M.2.2.2.2.2.2.2 = some (pc, (.putfield ix), len, a, b)) (hk : ((!((zT a b).2.2.2) || (Nat.beq M.2.2.2.2.2.2.1 2 && Nat.beq M.1 a)) && aok (zY a b) v && Nat.blt b fs.length) = true) (kk : Wp X D M Q (pc + 3) L r (l ++ .inr (a, fs.set b v) :: rest, u)) : Wp X D M Q pc L (v :: .ref l.length :: r) (l ++ .inr (a, fs) :: rest, u) :=
  wp1 (fun n d => r_put hf (fs := fs) (by rw [List.getElem?_append_right (Nat.le_refl _), Nat.sub_self]; rfl) hk (by
    show ((l ++ .inr (a, fs) :: rest).set l.length _, u) = _
    rw [List.set_append_right _ _ (Nat.le_refl _), Nat.sub_self]
    rfl)) kk
theorem w_newaE {l s s' : List aC} {u k o : Nat} {t : ArrayType} {x : Int32} (hf : aF pc M.2.2.2.2.2.2.2 = some (pc, (.newarray t), len, 0, b)) (hx : x.toInt = k) (h1 : k ≤ 100000) (hs : s' = s ++ [.inl (0, k, .inl (fun _ => 0))]) (ho : o = s.length) (kk : Wp X D M Q (pc + 2) L (.ref (l.length + o) :: r) (l ++ s', u + k)) : Wp X D M Q pc L (.int x :: r) (l ++ s, u) := by
  subst hs
  subst ho
  have e : x.toNatClampNeg = k := by show x.toInt.toNat = k; omega
  refine wp1 (fun n d => r_newa (o := l.length + s.length) hf ?_ (by show (l ++ s).length = _; rw [List.length_append]) (by show ((l ++ s) ++ [.inl (0, x.toNatClampNeg, azero 0)], u + x.toNatClampNeg) = _; rw [e, List.append_assoc]; rfl)) kk
  rintro (q | q)
  · have := Int32.lt_iff_toInt_lt.mp q
    rw [hx, show (0 : Int32).toInt = 0 by decide] at this
    omega
  · have := Int32.lt_iff_toInt_lt.mp q
    rw [hx, show (100000 : Int32).toInt = 100000 by decide] at this
    omega
end WE
theorem sea_init {X : aX} {l : List aC} {u : Nat} {yr : Int32} : Wp X 2 zM96 (fun v h' => v = none ∧ ∃ y3 y4 : Int32, h' = (l ++ [.inr (8, [.ref 1, .ref 16, .int yr, .int y3, .int y4, .int 0, .ref (l.length + 1), .ref (l.length + 2), .ref (l.length + 3), .ref (l.length + 4), .ref (l.length + 5), .ref (l.length + 6), .ref (l.length + 7)]), .inl (0, 300, .inl (fun _ => 0)), .inl (0, 300, .inl (fun _ => 0)), .inl (0, 300, .inl (fun _ => 0)), .inl (0, 24, .inl (fun _ => 0)), .inl (0, 150, .inl (fun _ => 0)), .inl (0, 150, .inl (fun _ => 0)), .inl (0, 150, .inl (fun _ => 0))], u + 1374)) 0 [some (.ref l.length), some (.ref 1), some (.ref 16), some (.int yr)] [] (l ++ [.inr (8, [.null, .null, .int 0, .int 0, .int 0, .int 0, .null, .null, .null, .null, .null, .null, .null])], u) := by
  show Wp X 2 zM96 _ 0 [some (.ref l.length), some (.ref 1), some (.ref 16), some (.int yr)] [] (l ++ .inr (8, [.null, .null, .int 0, .int 0, .int 0, .int 0, .null, .null, .null, .null, .null, .null, .null]) :: [], u)
  refine wp1 (fun n d => r_aloadn f96_0 rfl) ?_
  refine wp1 (fun n d => r_obj f96_1 rfl rfl) ?_
  refine wp1 (fun n d => r_aloadn f96_4 rfl) ?_
  refine w_iconst f96_5 (fun v5 hv5 => ?_)
  refine w_putE f96_6 rfl ?_
  show Wp X 2 zM96 _ 9 [some (.ref l.length), some (.ref 1), some (.ref 16), some (.int yr)] [] (l ++ .inr (8, [.null, .null, .int 0, .int v5, .int 0, .int 0, .null, .null, .null, .null, .null, .null, .null]) :: [], u)
  refine wp1 (fun n d => r_aloadn f96_9 rfl) ?_
  refine w_iconst f96_10 (fun v10 hv10 => ?_)
  refine w_putE f96_11 rfl ?_
  show Wp X 2 zM96 _ 14 [some (.ref l.length), some (.ref 1), some (.ref 16), some (.int yr)] [] (l ++ .inr (8, [.null, .null, .int 0, .int v5, .int v10, .int 0, .null, .null, .null, .null, .null, .null, .null]) :: [], u)
  refine wp1 (fun n d => r_aloadn f96_14 rfl) ?_
  refine w_sipush f96_15 (fun v15 hv15 => ?_)
  refine w_newaE (l := l) (s := .inr (8, [.null, .null, .int 0, .int v5, .int v10, .int 0, .null, .null, .null, .null, .null, .null, .null]) :: []) (s' := .inr (8, [.null, .null, .int 0, .int v5, .int v10, .int 0, .null, .null, .null, .null, .null, .null, .null]) :: [.inl (0, 300, .inl (fun _ => 0))]) (k := 300) (o := 1) f96_18 hv15 (by decide) rfl rfl ?_
  refine w_putE f96_20 rfl ?_
  show Wp X 2 zM96 _ 23 [some (.ref l.length), some (.ref 1), some (.ref 16), some (.int yr)] [] (l ++ .inr (8, [.null, .null, .int 0, .int v5, .int v10, .int 0, .ref (l.length + 1), .null, .null, .null, .null, .null, .null]) :: [.inl (0, 300, .inl (fun _ => 0))], u + 300)
  refine wp1 (fun n d => r_aloadn f96_23 rfl) ?_
  refine w_sipush f96_24 (fun v24 hv24 => ?_)
  refine w_newaE (l := l) (s := .inr (8, [.null, .null, .int 0, .int v5, .int v10, .int 0, .ref (l.length + 1), .null, .null, .null, .null, .null, .null]) :: [.inl (0, 300, .inl (fun _ => 0))]) (s' := .inr (8, [.null, .null, .int 0, .int v5, .int v10, .int 0, .ref (l.length + 1), .null, .null, .null, .null, .null, .null]) :: [.inl (0, 300, .inl (fun _ => 0)), .inl (0, 300, .inl (fun _ => 0))]) (k := 300) (o := 2) f96_27 hv24 (by decide) rfl rfl ?_
  refine w_putE f96_29 rfl ?_
  show Wp X 2 zM96 _ 32 [some (.ref l.length), some (.ref 1), some (.ref 16), some (.int yr)] [] (l ++ .inr (8, [.null, .null, .int 0, .int v5, .int v10, .int 0, .ref (l.length + 1), .ref (l.length + 2), .null, .null, .null, .null, .null]) :: [.inl (0, 300, .inl (fun _ => 0)), .inl (0, 300, .inl (fun _ => 0))], (u + 300) + 300)
  refine wp1 (fun n d => r_aloadn f96_32 rfl) ?_
  refine w_sipush f96_33 (fun v33 hv33 => ?_)
  refine w_newaE (l := l) (s := .inr (8, [.null, .null, .int 0, .int v5, .int v10, .int 0, .ref (l.length + 1), .ref (l.length + 2), .null, .null, .null, .null, .null]) :: [.inl (0, 300, .inl (fun _ => 0)), .inl (0, 300, .inl (fun _ => 0))]) (s' := .inr (8, [.null, .null, .int 0, .int v5, .int v10, .int 0, .ref (l.length + 1), .ref (l.length + 2), .null, .null, .null, .null, .null]) :: [.inl (0, 300, .inl (fun _ => 0)), .inl (0, 300, .inl (fun _ => 0)), .inl (0, 300, .inl (fun _ => 0))]) (k := 300) (o := 3) f96_36 hv33 (by decide) rfl rfl ?_
  refine w_putE f96_38 rfl ?_
  show Wp X 2 zM96 _ 41 [some (.ref l.length), some (.ref 1), some (.ref 16), some (.int yr)] [] (l ++ .inr (8, [.null, .null, .int 0, .int v5, .int v10, .int 0, .ref (l.length + 1), .ref (l.length + 2), .ref (l.length + 3), .null, .null, .null, .null]) :: [.inl (0, 300, .inl (fun _ => 0)), .inl (0, 300, .inl (fun _ => 0)), .inl (0, 300, .inl (fun _ => 0))], ((u + 300) + 300) + 300)
  refine wp1 (fun n d => r_aloadn f96_41 rfl) ?_
  refine w_bipush f96_42 (fun v42 hv42 => ?_)
  refine w_newaE (l := l) (s := .inr (8, [.null, .null, .int 0, .int v5, .int v10, .int 0, .ref (l.length + 1), .ref (l.length + 2), .ref (l.length + 3), .null, .null, .null, .null]) :: [.inl (0, 300, .inl (fun _ => 0)), .inl (0, 300, .inl (fun _ => 0)), .inl (0, 300, .inl (fun _ => 0))]) (s' := .inr (8, [.null, .null, .int 0, .int v5, .int v10, .int 0, .ref (l.length + 1), .ref (l.length + 2), .ref (l.length + 3), .null, .null, .null, .null]) :: [.inl (0, 300, .inl (fun _ => 0)), .inl (0, 300, .inl (fun _ => 0)), .inl (0, 300, .inl (fun _ => 0)), .inl (0, 24, .inl (fun _ => 0))]) (k := 24) (o := 4) f96_44 hv42 (by decide) rfl rfl ?_
  refine w_putE f96_46 rfl ?_
  show Wp X 2 zM96 _ 49 [some (.ref l.length), some (.ref 1), some (.ref 16), some (.int yr)] [] (l ++ .inr (8, [.null, .null, .int 0, .int v5, .int v10, .int 0, .ref (l.length + 1), .ref (l.length + 2), .ref (l.length + 3), .ref (l.length + 4), .null, .null, .null]) :: [.inl (0, 300, .inl (fun _ => 0)), .inl (0, 300, .inl (fun _ => 0)), .inl (0, 300, .inl (fun _ => 0)), .inl (0, 24, .inl (fun _ => 0))], (((u + 300) + 300) + 300) + 24)
  refine wp1 (fun n d => r_aloadn f96_49 rfl) ?_
  refine w_sipush f96_50 (fun v50 hv50 => ?_)
  refine w_newaE (l := l) (s := .inr (8, [.null, .null, .int 0, .int v5, .int v10, .int 0, .ref (l.length + 1), .ref (l.length + 2), .ref (l.length + 3), .ref (l.length + 4), .null, .null, .null]) :: [.inl (0, 300, .inl (fun _ => 0)), .inl (0, 300, .inl (fun _ => 0)), .inl (0, 300, .inl (fun _ => 0)), .inl (0, 24, .inl (fun _ => 0))]) (s' := .inr (8, [.null, .null, .int 0, .int v5, .int v10, .int 0, .ref (l.length + 1), .ref (l.length + 2), .ref (l.length + 3), .ref (l.length + 4), .null, .null, .null]) :: [.inl (0, 300, .inl (fun _ => 0)), .inl (0, 300, .inl (fun _ => 0)), .inl (0, 300, .inl (fun _ => 0)), .inl (0, 24, .inl (fun _ => 0)), .inl (0, 150, .inl (fun _ => 0))]) (k := 150) (o := 5) f96_53 hv50 (by decide) rfl rfl ?_
  refine w_putE f96_55 rfl ?_
  show Wp X 2 zM96 _ 58 [some (.ref l.length), some (.ref 1), some (.ref 16), some (.int yr)] [] (l ++ .inr (8, [.null, .null, .int 0, .int v5, .int v10, .int 0, .ref (l.length + 1), .ref (l.length + 2), .ref (l.length + 3), .ref (l.length + 4), .ref (l.length + 5), .null, .null]) :: [.inl (0, 300, .inl (fun _ => 0)), .inl (0, 300, .inl (fun _ => 0)), .inl (0, 300, .inl (fun _ => 0)), .inl (0, 24, .inl (fun _ => 0)), .inl (0, 150, .inl (fun _ => 0))], ((((u + 300) + 300) + 300) + 24) + 150)
  refine wp1 (fun n d => r_aloadn f96_58 rfl) ?_
  refine w_sipush f96_59 (fun v59 hv59 => ?_)
  refine w_newaE (l := l) (s := .inr (8, [.null, .null, .int 0, .int v5, .int v10, .int 0, .ref (l.length + 1), .ref (l.length + 2), .ref (l.length + 3), .ref (l.length + 4), .ref (l.length + 5), .null, .null]) :: [.inl (0, 300, .inl (fun _ => 0)), .inl (0, 300, .inl (fun _ => 0)), .inl (0, 300, .inl (fun _ => 0)), .inl (0, 24, .inl (fun _ => 0)), .inl (0, 150, .inl (fun _ => 0))]) (s' := .inr (8, [.null, .null, .int 0, .int v5, .int v10, .int 0, .ref (l.length + 1), .ref (l.length + 2), .ref (l.length + 3), .ref (l.length + 4), .ref (l.length + 5), .null, .null]) :: [.inl (0, 300, .inl (fun _ => 0)), .inl (0, 300, .inl (fun _ => 0)), .inl (0, 300, .inl (fun _ => 0)), .inl (0, 24, .inl (fun _ => 0)), .inl (0, 150, .inl (fun _ => 0)), .inl (0, 150, .inl (fun _ => 0))]) (k := 150) (o := 6) f96_62 hv59 (by decide) rfl rfl ?_
  refine w_putE f96_64 rfl ?_
  show Wp X 2 zM96 _ 67 [some (.ref l.length), some (.ref 1), some (.ref 16), some (.int yr)] [] (l ++ .inr (8, [.null, .null, .int 0, .int v5, .int v10, .int 0, .ref (l.length + 1), .ref (l.length + 2), .ref (l.length + 3), .ref (l.length + 4), .ref (l.length + 5), .ref (l.length + 6), .null]) :: [.inl (0, 300, .inl (fun _ => 0)), .inl (0, 300, .inl (fun _ => 0)), .inl (0, 300, .inl (fun _ => 0)), .inl (0, 24, .inl (fun _ => 0)), .inl (0, 150, .inl (fun _ => 0)), .inl (0, 150, .inl (fun _ => 0))], (((((u + 300) + 300) + 300) + 24) + 150) + 150)
  refine wp1 (fun n d => r_aloadn f96_67 rfl) ?_
  refine w_sipush f96_68 (fun v68 hv68 => ?_)
  refine w_newaE (l := l) (s := .inr (8, [.null, .null, .int 0, .int v5, .int v10, .int 0, .ref (l.length + 1), .ref (l.length + 2), .ref (l.length + 3), .ref (l.length + 4), .ref (l.length + 5), .ref (l.length + 6), .null]) :: [.inl (0, 300, .inl (fun _ => 0)), .inl (0, 300, .inl (fun _ => 0)), .inl (0, 300, .inl (fun _ => 0)), .inl (0, 24, .inl (fun _ => 0)), .inl (0, 150, .inl (fun _ => 0)), .inl (0, 150, .inl (fun _ => 0))]) (s' := .inr (8, [.null, .null, .int 0, .int v5, .int v10, .int 0, .ref (l.length + 1), .ref (l.length + 2), .ref (l.length + 3), .ref (l.length + 4), .ref (l.length + 5), .ref (l.length + 6), .null]) :: [.inl (0, 300, .inl (fun _ => 0)), .inl (0, 300, .inl (fun _ => 0)), .inl (0, 300, .inl (fun _ => 0)), .inl (0, 24, .inl (fun _ => 0)), .inl (0, 150, .inl (fun _ => 0)), .inl (0, 150, .inl (fun _ => 0)), .inl (0, 150, .inl (fun _ => 0))]) (k := 150) (o := 7) f96_71 hv68 (by decide) rfl rfl ?_
  refine w_putE f96_73 rfl ?_
  show Wp X 2 zM96 _ 76 [some (.ref l.length), some (.ref 1), some (.ref 16), some (.int yr)] [] (l ++ .inr (8, [.null, .null, .int 0, .int v5, .int v10, .int 0, .ref (l.length + 1), .ref (l.length + 2), .ref (l.length + 3), .ref (l.length + 4), .ref (l.length + 5), .ref (l.length + 6), .ref (l.length + 7)]) :: [.inl (0, 300, .inl (fun _ => 0)), .inl (0, 300, .inl (fun _ => 0)), .inl (0, 300, .inl (fun _ => 0)), .inl (0, 24, .inl (fun _ => 0)), .inl (0, 150, .inl (fun _ => 0)), .inl (0, 150, .inl (fun _ => 0)), .inl (0, 150, .inl (fun _ => 0))], ((((((u + 300) + 300) + 300) + 24) + 150) + 150) + 150)
  refine wp1 (fun n d => r_aloadn f96_76 rfl) ?_
  refine wp1 (fun n d => r_aloadn f96_77 rfl) ?_
  refine w_putE f96_78 rfl ?_
  show Wp X 2 zM96 _ 81 [some (.ref l.length), some (.ref 1), some (.ref 16), some (.int yr)] [] (l ++ .inr (8, [.ref 1, .null, .int 0, .int v5, .int v10, .int 0, .ref (l.length + 1), .ref (l.length + 2), .ref (l.length + 3), .ref (l.length + 4), .ref (l.length + 5), .ref (l.length + 6), .ref (l.length + 7)]) :: [.inl (0, 300, .inl (fun _ => 0)), .inl (0, 300, .inl (fun _ => 0)), .inl (0, 300, .inl (fun _ => 0)), .inl (0, 24, .inl (fun _ => 0)), .inl (0, 150, .inl (fun _ => 0)), .inl (0, 150, .inl (fun _ => 0)), .inl (0, 150, .inl (fun _ => 0))], ((((((u + 300) + 300) + 300) + 24) + 150) + 150) + 150)
  refine wp1 (fun n d => r_aloadn f96_81 rfl) ?_
  refine wp1 (fun n d => r_aloadn f96_82 rfl) ?_
  refine w_putE f96_83 rfl ?_
  show Wp X 2 zM96 _ 86 [some (.ref l.length), some (.ref 1), some (.ref 16), some (.int yr)] [] (l ++ .inr (8, [.ref 1, .ref 16, .int 0, .int v5, .int v10, .int 0, .ref (l.length + 1), .ref (l.length + 2), .ref (l.length + 3), .ref (l.length + 4), .ref (l.length + 5), .ref (l.length + 6), .ref (l.length + 7)]) :: [.inl (0, 300, .inl (fun _ => 0)), .inl (0, 300, .inl (fun _ => 0)), .inl (0, 300, .inl (fun _ => 0)), .inl (0, 24, .inl (fun _ => 0)), .inl (0, 150, .inl (fun _ => 0)), .inl (0, 150, .inl (fun _ => 0)), .inl (0, 150, .inl (fun _ => 0))], ((((((u + 300) + 300) + 300) + 24) + 150) + 150) + 150)
  refine wp1 (fun n d => r_aloadn f96_86 rfl) ?_
  refine wp1 (fun n d => r_iloadn f96_87 rfl) ?_
  refine w_putE f96_88 rfl ?_
  refine wp_end (fun n d => r_vreturn f96_91 rfl) ⟨rfl, v5, v10, ?_⟩
  show (l ++ .inr (8, [.ref 1, .ref 16, .int yr, .int v5, .int v10, .int 0, .ref (l.length + 1), .ref (l.length + 2), .ref (l.length + 3), .ref (l.length + 4), .ref (l.length + 5), .ref (l.length + 6), .ref (l.length + 7)]) :: [.inl (0, 300, .inl (fun _ => 0)), .inl (0, 300, .inl (fun _ => 0)), .inl (0, 300, .inl (fun _ => 0)), .inl (0, 24, .inl (fun _ => 0)), .inl (0, 150, .inl (fun _ => 0)), .inl (0, 150, .inl (fun _ => 0)), .inl (0, 150, .inl (fun _ => 0))], ((((((u + 300) + 300) + 300) + 24) + 150) + 150) + 150) = _
  rw [show ((((((u + 300) + 300) + 300) + 24) + 150) + 150) + 150 = u + 1374 by omega]
theorem post_r {σ : List Nat} {h : aH} {q rg : Nat} (hq : σ[q]? = some rg) : dPost ([], [(3, 1000, 0)], ([(0, 0)], [], [], [rg], [], [], [])) σ h (some (.ref q)) := by
  refine ⟨[0], [q], dK_r ⟨rfl, rfl, fun p y q e1 e2 => ?_⟩ hq, ⟨q, rfl, Or.inr ⟨by decide, rfl⟩⟩, trivial⟩
  match p, e1, e2 with
  | 0, e1, e2 => cases e1; cases e2; exact ⟨by decide, by decide⟩
  | p + 1, e1, _ => simp at e1
theorem hand_62 {X : aX} (hX : X 0 = some (8, zab)) : dGood X cC62 := by
  have GB : dGood X cC349 := hT_s hX 9 (by decide) _ rfl
  intro M hM l h σ ρ rh I K L
  have hM0 : zmt[1]? = some zM1 := rfl
  cases (show zmt[1]? = some M from hM).symm.trans hM0
  have a0 := dL_r L (i := 0) (c := 41) (o := 0) rfl (by decide)
  obtain ⟨x1, a1, b1, b1'⟩ := hL_i L K.1 (i := 1) (p := 1) (o := 0) (lo := 0) (hi := 9) rfl rfl
  obtain ⟨x2, a2, b2, b2'⟩ := hL_i L K.1 (i := 2) (p := 2) (o := 0) (lo := 0) (hi := 3649) rfl rfl
  obtain ⟨u0, l1, rfl, e1⟩ := hcons (show l.length = 5 from L.1)
  obtain ⟨u1, l2, rfl, e2⟩ := hcons e1
  obtain ⟨u2, l3, rfl, e3⟩ := hcons e2
  obtain ⟨u3, l4, rfl, e4⟩ := hcons e3
  obtain ⟨u4, l5, rfl, e5⟩ := hcons e4
  cases hnil e5
  cases Option.some.inj a0
  cases Option.some.inj a1
  cases Option.some.inj a2
  have k104 : ∀ (σ1 : List Nat) (h1 : aH) (q : Nat) (x3 : Int32), dI σ1 h1 → σ1[q]? = some 146 → dG cC62.2.2.1 σ h σ1 h1 → Wp X 8 zM1 (hQ cC62 σ h) 104 [some (.ref 41), some (.int x1), some (.int x2), some (.int x3), some (.ref q)] [] h1 := by
    intro σ1 h1 q x3 I1 hq G1
    refine wp1 (fun n d => r_aload f1_104 rfl) ?_
    exact wp_end (fun n d => r_areturn f1_106 rfl) ⟨σ1, I1, G1, _, List.mem_cons_self, post_r hq⟩
  have k97 : ∀ (σ1 : List Nat) (h1 : aH) (q : Nat) (x3 : Int32), dI σ1 h1 → σ1[q]? = some 146 → dG cC62.2.2.1 σ h σ1 h1 → Wp X 8 zM1 (hQ cC62 σ h) 97 [some (.ref 41), some (.int x1), some (.int x2), some (.int x3), some (.ref q)] [] h1 := by
    intro σ1 h1 q x3 I1 hq G1
    obtain ⟨cq, d1, d2⟩ := dH_cell I1.1 hq (t := (cRT[146]?).getD (0, 0, 0, 0, 0, [])) rfl
    obtain ⟨fq, rfl, -, -⟩ := dC_0 d2 rfl
    refine wp1 (fun n d => r_aload f1_97 rfl) ?_
    refine wp1 (fun n d => r_iloadn f1_99 rfl) ?_
    refine wp1 (fun n d => r_iloadn f1_100 rfl) ?_
    refine wp_goodr GB (Y := zM97) (show zmt[97]? = some zM97 from rfl) I1 (ρ := [0, x2.toInt, x3.toInt]) (rh := [q]) (dK_r (kV_of rfl ⟨⟨by decide, by decide⟩, ⟨by show (0 : Int) ≤ _; omega, by show _ ≤ (3649 : Int); omega⟩, iR _, trivial⟩) hq) (dL_R (l := [some (.ref q), some (.int x2), some (.int x3), none]) ⟨li_q rfl, li_i rfl, li_i rfl, li_0, trivial⟩) (fun n d v h' e => r_virt (as := [.int x2, .int x3]) (r := []) f1_101 d1 (show zmt[97]? = some zM97 from rfl) rfl rfl rfl rfl rfl rfl e) (by decide) (fun v h2 σ2 I2 G2 P2 => ?_)
    cases rpost_0 P2 rfl
    exact k104 σ2 h2 q x3 I2 (G2.1 _ _ hq) (dG_trans G1 (dG_sub (by decide) G2))
  have k79 : ∀ (σ1 : List Nat) (h1 : aH) (q : Nat) (x3 : Int32), dI σ1 h1 → σ1[q]? = some 146 → dG cC62.2.2.1 σ h σ1 h1 → Wp X 8 zM1 (hQ cC62 σ h) 79 [some (.ref 41), some (.int x1), some (.int x2), some (.int x3), some (.ref q)] [] h1 := by
    intro σ1 h1 q x3 I1 hq G1
    obtain ⟨cq, d1, d2⟩ := dH_cell I1.1 hq (t := (cRT[146]?).getD (0, 0, 0, 0, 0, [])) rfl
    obtain ⟨fq, rfl, -, d3⟩ := dC_0 d2 rfl
    obtain ⟨v3, g3, t3⟩ := d3 3 _ rfl
    obtain ⟨v4, g4, t4⟩ := d3 4 _ rfl
    obtain ⟨y3, rfl, -, -⟩ := dT_i t3 rfl
    obtain ⟨y4, rfl, -, -⟩ := dT_i t4 rfl
    refine wp1 (fun n d => r_aload f1_79 rfl) ?_
    refine w_get f1_81 d1 g3 ?_
    refine wp1 (fun n d => r_iloadn f1_84 rfl) ?_
    refine w_icmp_ne f1_85 (fun _ => k97 σ1 h1 q x3 I1 hq G1) (fun _ => ?_)
    refine wp1 (fun n d => r_aload f1_88 rfl) ?_
    refine w_get f1_90 d1 g4 ?_
    refine wp1 (fun n d => r_iloadn f1_93 rfl) ?_
    exact w_icmp_eq f1_94 (fun _ => k104 σ1 h1 q x3 I1 hq G1) (fun _ => k97 σ1 h1 q x3 I1 hq G1)
  refine hEnd ?_
  show Wp X 8 zM1 _ 0 [some (.ref 41), some (.int x1), some (.int x2), u3, u4] [] h
  obtain ⟨g, c42, hg⟩ := hI_rr I (r := 42) (a := 4) (n := 10) (rg := 146) (Or.inl ⟨rfl, rfl, rfl, rfl⟩)
  refine wp1 (fun n d => r_aloadn f1_0 rfl) ?_
  obtain ⟨fs1001, c1001⟩ := hI_o I (r := 41) (ci := 0) (by decide +kernel)
  have F1002 := hI_r I c1001 (f := 0) (q := 1) (by decide +kernel)
  refine w_get f1_1 c1001 F1002 ?_
  obtain ⟨fs1003, c1003⟩ := hI_o I (r := 1) (ci := 6) (by decide +kernel)
  obtain ⟨x1_1004, F1004, lo1004, hi1004⟩ := hI_i I c1003 (f := 1) (lo := 0) (hi := 150) (by decide +kernel)
  refine w_get f1_4 c1003 F1004 ?_
  refine wp1 (fun n d => r_aloadn f1_7 rfl) ?_
  refine w_get f1_8 c1001 F1002 ?_
  obtain ⟨x5_1005, F1005, lo1005, hi1005⟩ := hI_i I c1003 (f := 5) (lo := (-2147483648)) (hi := 2147483647) (by decide +kernel)
  refine w_get f1_11 c1003 F1005 ?_
  refine w_iadd' f1_14 (fun v14 => ?_)
  refine wp1 (fun n d => r_aloadn f1_15 rfl) ?_
  have F1006 := hI_r I c1001 (f := 1) (q := 16) (by decide +kernel)
  refine w_get f1_16 c1001 F1006 ?_
  obtain ⟨fs1007, c1007⟩ := hI_o I (r := 16) (ci := 2) (by decide +kernel)
  obtain ⟨x1_1008, F1008, lo1008, hi1008⟩ := hI_i I c1007 (f := 1) (lo := 0) (hi := 300) (by decide +kernel)
  refine w_get f1_19 c1007 F1008 ?_
  refine w_iadd' f1_22 (fun v22 => ?_)
  refine wp1 (fun n d => r_aloadn f1_23 rfl) ?_
  refine w_get f1_24 c1001 F1006 ?_
  obtain ⟨x2_1009, F1009, lo1009, hi1009⟩ := hI_i I c1007 (f := 2) (lo := 0) (hi := 40) (by decide +kernel)
  refine w_get f1_27 c1007 F1009 ?_
  refine w_iadd' f1_30 (fun v30 => ?_)
  refine wp1 (fun n d => r_aloadn f1_31 rfl) ?_
  refine w_get f1_32 c1001 F1006 ?_
  obtain ⟨x3_1010, F1010, lo1010, hi1010⟩ := hI_i I c1007 (f := 3) (lo := 0) (hi := 200) (by decide +kernel)
  refine w_get f1_35 c1007 F1010 ?_
  refine w_iadd' f1_38 (fun v38 => ?_)
  refine wp1 (fun n d => r_istoren (L' := [some (.ref 41), some (.int x1), some (.int x2), some (.int v38), u4]) f1_39 rfl rfl) ?_
  refine wp1 (fun n d => r_aloadn f1_40 rfl) ?_
  have F1011 := hI_r I c1001 (f := 3) (q := 42) (by decide +kernel)
  refine w_get f1_41 c1001 F1011 ?_
  refine wp1 (fun n d => r_iloadn f1_44 rfl) ?_
  cases hgx : g x1.toInt.toNat with
  | some q =>
    refine wp1 (fun n d => r_aald4 (v := .ref q) f1_45 c42 (ix_ok (by omega) (by omega)) (by show arf (g x1.toInt.toNat) = _; rw [hgx]; rfl)) ?_
    refine wp1 (fun n d => r_astore (L' := [some (.ref 41), some (.int x1), some (.int x2), some (.int v38), some (.ref q)]) f1_46 rfl rfl) ?_
    refine wp1 (fun n d => r_aload f1_48 rfl) ?_
    refine wp1 (fun n d => r_ifnonnull_r f1_50) ?_
    exact k79 σ h q v38 I (hg _ _ hgx) (dG_refl _ _ _)
  | none =>
    refine wp1 (fun n d => r_aald4 (v := .null) f1_45 c42 (ix_ok (by omega) (by omega)) (by show arf (g x1.toInt.toNat) = _; rw [hgx]; rfl)) ?_
    refine wp1 (fun n d => r_astoreN (L' := [some (.ref 41), some (.int x1), some (.int x2), some (.int v38), some (.null)]) f1_46 rfl rfl) ?_
    refine wp1 (fun n d => r_aloadN f1_48 rfl) ?_
    refine wp1 (fun n d => r_ifnonnull_n f1_50) ?_
    refine wp1 (fun n d => r_new (o := h.1.length) (h' := (h.1 ++ [.inr (8, [.null, .null, .int 0, .int 0, .int 0, .int 0, .null, .null, .null, .null, .null, .null, .null])], h.2 + 13)) f1_53 rfl rfl) ?_
    refine wp1 (fun n d => r_dup f1_56 rfl) ?_
    obtain ⟨fs41, c41⟩ := hI_o I (r := 41) (ci := 0) (by decide +kernel)
    have F0 := hI_r I c41 (f := 0) (q := 1) (by decide +kernel)
    have F1 := hI_r I c41 (f := 1) (q := 16) (by decide +kernel)
    have c41b : (h.1 ++ [.inr (8, [.null, .null, .int 0, .int 0, .int 0, .int 0, .null, .null, .null, .null, .null, .null, .null])])[41]? = some (.inr (0, fs41)) := by
      rw [List.getElem?_append_left (List.getElem?_eq_some_iff.mp c41).1]; exact c41
    refine wp1 (fun n d => r_aloadn f1_57 rfl) ?_
    refine w_get f1_58 c41b F0 ?_
    refine wp1 (fun n d => r_aloadn f1_61 rfl) ?_
    refine w_get f1_62 c41b F1 ?_
    refine wp1 (fun n d => r_iloadn f1_65 rfl) ?_
    refine wp_in (lv := 2) (Y := zM96) (sea_init (l := h.1) (u := h.2 + 13) (yr := x1)) (fun n d v h' e => r_init (o := h.1.length) (as := [.ref 1, .ref 16, .int x1]) (r := [.ref h.1.length]) f1_66 rfl (show zmt[96]? = some zM96 from rfl) rfl rfl rfl rfl rfl rfl e) (by decide) ?_
    rintro v h1 ⟨rfl, y3, y4, rfl⟩
    show Wp _ _ _ _ 69 [some (.ref 41), some (.int x1), some (.int x2), some (.int v38), some (.null)] [.ref h.1.length] _
    have at_ : ∀ i r : Nat, ([146, 147, 148, 149, 150, 151, 152, 153] : List Nat)[i]? = some r → (σ ++ [146, 147, 148, 149, 150, 151, 152, 153])[h.1.length + i]? = some r := fun i r e => by
      rw [List.getElem?_append_right (by rw [I.1.1]; omega), I.1.1, Nat.add_sub_cancel_left]
      exact e
    have I1 : dI (σ ++ [146, 147, 148, 149, 150, 151, 152, 153]) (h.1 ++ [.inr (8, [.ref 1, .ref 16, .int x1, .int y3, .int y4, .int 0, .ref (h.1.length + 1), .ref (h.1.length + 2), .ref (h.1.length + 3), .ref (h.1.length + 4), .ref (h.1.length + 5), .ref (h.1.length + 6), .ref (h.1.length + 7)]), .inl (0, 300, .inl (fun _ => 0)), .inl (0, 300, .inl (fun _ => 0)), .inl (0, 300, .inl (fun _ => 0)), .inl (0, 24, .inl (fun _ => 0)), .inl (0, 150, .inl (fun _ => 0)), .inl (0, 150, .inl (fun _ => 0)), .inl (0, 150, .inl (fun _ => 0))], h.2 + 13 + 1374) := dI_app I rfl (fun r hr => by
      simp only [List.mem_cons, List.not_mem_nil, or_false] at hr
      omega) (fun i r e => by
      match i, e with
      | 0, e =>
        cases e
        refine ⟨_, _, rfl, rfl, ⟨_, rfl, rfl, fun i ty e => ?_⟩⟩
        match i, e with
        | 0, e => cases e; exact ⟨_, rfl, _, rfl, pre_app _ _ (I.1.2.2.2 1 (by decide))⟩
        | 1, e => cases e; exact ⟨_, rfl, _, rfl, pre_app _ _ (I.1.2.2.2 16 (by decide))⟩
        | 2, e => cases e; exact ⟨_, rfl, _, rfl, ⟨by show (0 : Int) ≤ _; omega, by show _ ≤ (9 : Int); omega⟩⟩
        | 3, e => cases e; exact ⟨_, rfl, _, rfl, iR _⟩
        | 4, e => cases e; exact ⟨_, rfl, _, rfl, iR _⟩
        | 5, e => cases e; exact ⟨_, rfl, _, rfl, ⟨by show (0 : Int) ≤ ((0 : Int32)).toInt; decide, by show ((0 : Int32)).toInt ≤ (300 : Int); decide⟩⟩
        | 6, e => cases e; exact ⟨_, rfl, _, rfl, at_ 1 _ rfl⟩
        | 7, e => cases e; exact ⟨_, rfl, _, rfl, at_ 2 _ rfl⟩
        | 8, e => cases e; exact ⟨_, rfl, _, rfl, at_ 3 _ rfl⟩
        | 9, e => cases e; exact ⟨_, rfl, _, rfl, at_ 4 _ rfl⟩
        | 10, e => cases e; exact ⟨_, rfl, _, rfl, at_ 5 _ rfl⟩
        | 11, e => cases e; exact ⟨_, rfl, _, rfl, at_ 6 _ rfl⟩
        | 12, e => cases e; exact ⟨_, rfl, _, rfl, at_ 7 _ rfl⟩
        | i + 13, e => simp at e
      | 1, e =>
        cases e
        exact ⟨_, _, rfl, rfl, ⟨_, rfl, fun j _ => by show (0 : Int) ≤ ((0 : Int32)).toInt ∧ ((0 : Int32)).toInt ≤ (299 : Int); decide⟩⟩
      | 2, e =>
        cases e
        exact ⟨_, _, rfl, rfl, ⟨_, rfl, fun j _ => by show ((-2147483648) : Int) ≤ ((0 : Int32)).toInt ∧ ((0 : Int32)).toInt ≤ (2147483647 : Int); decide⟩⟩
      | 3, e =>
        cases e
        exact ⟨_, _, rfl, rfl, ⟨_, rfl, fun j _ => by show ((-2147483648) : Int) ≤ ((0 : Int32)).toInt ∧ ((0 : Int32)).toInt ≤ (2147483647 : Int); decide⟩⟩
      | 4, e =>
        cases e
        exact ⟨_, _, rfl, rfl, ⟨_, rfl, fun j _ => by show ((-2147483648) : Int) ≤ ((0 : Int32)).toInt ∧ ((0 : Int32)).toInt ≤ (2147483647 : Int); decide⟩⟩
      | 5, e =>
        cases e
        exact ⟨_, _, rfl, rfl, ⟨_, rfl, fun j _ => by show ((-2147483648) : Int) ≤ ((0 : Int32)).toInt ∧ ((0 : Int32)).toInt ≤ (2147483647 : Int); decide⟩⟩
      | 6, e =>
        cases e
        exact ⟨_, _, rfl, rfl, ⟨_, rfl, fun j _ => by show ((-2147483648) : Int) ≤ ((0 : Int32)).toInt ∧ ((0 : Int32)).toInt ≤ (2147483647 : Int); decide⟩⟩
      | 7, e =>
        cases e
        exact ⟨_, _, rfl, rfl, ⟨_, rfl, fun j _ => by show ((-1) : Int) ≤ ((0 : Int32)).toInt ∧ ((0 : Int32)).toInt ≤ (299 : Int); decide⟩⟩
      | i + 8, e => simp at e)
    have P1 := dPh_app I (cs := [.inr (8, [.ref 1, .ref 16, .int x1, .int y3, .int y4, .int 0, .ref (h.1.length + 1), .ref (h.1.length + 2), .ref (h.1.length + 3), .ref (h.1.length + 4), .ref (h.1.length + 5), .ref (h.1.length + 6), .ref (h.1.length + 7)]), .inl (0, 300, .inl (fun _ => 0)), .inl (0, 300, .inl (fun _ => 0)), .inl (0, 300, .inl (fun _ => 0)), .inl (0, 24, .inl (fun _ => 0)), .inl (0, 150, .inl (fun _ => 0)), .inl (0, 150, .inl (fun _ => 0)), .inl (0, 150, .inl (fun _ => 0))]) (u := h.2 + 13 + 1374)
    have q1 : (σ ++ [146, 147, 148, 149, 150, 151, 152, 153])[h.1.length]? = some 146 := at_ 0 146 rfl
    have N1 : dGn cC62.2.2.1 σ h (σ ++ [146, 147, 148, 149, 150, 151, 152, 153]) (h.1 ++ [.inr (8, [.ref 1, .ref 16, .int x1, .int y3, .int y4, .int 0, .ref (h.1.length + 1), .ref (h.1.length + 2), .ref (h.1.length + 3), .ref (h.1.length + 4), .ref (h.1.length + 5), .ref (h.1.length + 6), .ref (h.1.length + 7)]), .inl (0, 300, .inl (fun _ => 0)), .inl (0, 300, .inl (fun _ => 0)), .inl (0, 300, .inl (fun _ => 0)), .inl (0, 24, .inl (fun _ => 0)), .inl (0, 150, .inl (fun _ => 0)), .inl (0, 150, .inl (fun _ => 0)), .inl (0, 150, .inl (fun _ => 0))], h.2 + 13 + 1374) := dGn_app
    have c42b : ((h.1 ++ [.inr (8, [.ref 1, .ref 16, .int x1, .int y3, .int y4, .int 0, .ref (h.1.length + 1), .ref (h.1.length + 2), .ref (h.1.length + 3), .ref (h.1.length + 4), .ref (h.1.length + 5), .ref (h.1.length + 6), .ref (h.1.length + 7)]), .inl (0, 300, .inl (fun _ => 0)), .inl (0, 300, .inl (fun _ => 0)), .inl (0, 300, .inl (fun _ => 0)), .inl (0, 24, .inl (fun _ => 0)), .inl (0, 150, .inl (fun _ => 0)), .inl (0, 150, .inl (fun _ => 0)), .inl (0, 150, .inl (fun _ => 0))], h.2 + 13 + 1374) : aH).1[42]? = some (.inl (4, 10, .inr (.inr (.inr (.inr g))))) := by
      show (h.1 ++ [.inr (8, [.ref 1, .ref 16, .int x1, .int y3, .int y4, .int 0, .ref (h.1.length + 1), .ref (h.1.length + 2), .ref (h.1.length + 3), .ref (h.1.length + 4), .ref (h.1.length + 5), .ref (h.1.length + 6), .ref (h.1.length + 7)]), .inl (0, 300, .inl (fun _ => 0)), .inl (0, 300, .inl (fun _ => 0)), .inl (0, 300, .inl (fun _ => 0)), .inl (0, 24, .inl (fun _ => 0)), .inl (0, 150, .inl (fun _ => 0)), .inl (0, 150, .inl (fun _ => 0)), .inl (0, 150, .inl (fun _ => 0))])[42]? = _
      rw [List.getElem?_append_left (List.getElem?_eq_some_iff.mp c42).1]; exact c42
    simp only [List.length_cons, List.length_nil] at P1
    generalize ((h.1 ++ [.inr (8, [.ref 1, .ref 16, .int x1, .int y3, .int y4, .int 0, .ref (h.1.length + 1), .ref (h.1.length + 2), .ref (h.1.length + 3), .ref (h.1.length + 4), .ref (h.1.length + 5), .ref (h.1.length + 6), .ref (h.1.length + 7)]), .inl (0, 300, .inl (fun _ => 0)), .inl (0, 300, .inl (fun _ => 0)), .inl (0, 300, .inl (fun _ => 0)), .inl (0, 24, .inl (fun _ => 0)), .inl (0, 150, .inl (fun _ => 0)), .inl (0, 150, .inl (fun _ => 0)), .inl (0, 150, .inl (fun _ => 0))], h.2 + 13 + 1374) : aH) = h2 at I1 P1 N1 c42b ⊢
    generalize hq : h.1.length = q at q1 ⊢
    obtain ⟨cq, d1, d2⟩ := dH_cell I1.1 q1 (t := (cRT[146]?).getD (0, 0, 0, 0, 0, [])) rfl
    obtain ⟨fq, rfl, -, -⟩ := dC_0 d2 rfl
    obtain ⟨fs2, e41⟩ := hI_o I1 (r := 41) (ci := 0) (by decide +kernel)
    have F3 := hI_r I1 e41 (f := 3) (q := 42) (by decide +kernel)
    refine wp1 (fun n d => r_astore (L' := [some (.ref 41), some (.int x1), some (.int x2), some (.int v38), some (.ref q)]) f1_69 rfl rfl) ?_
    refine wp1 (fun n d => r_aloadn f1_71 rfl) ?_
    refine w_get f1_72 e41 F3 ?_
    refine wp1 (fun n d => r_iloadn f1_75 rfl) ?_
    refine wp1 (fun n d => r_aload f1_76 rfl) ?_
    obtain ⟨I3, N3, P3⟩ := hI_ref I1 (W := cC62.2.2.1) (r := 42) (a := 4) (n := 10) (k := x1.toInt.toNat) (q := q) (rg := 146) (Or.inl ⟨rfl, rfl, rfl, rfl⟩) (by decide) c42b q1 (by omega) hgx
    refine wp1 (fun n d => r_aast f1_78 c42b d1 (ix_ok (by omega) (by omega)) rfl) ?_
    refine k79 _ _ q v38 I3 q1 ⟨fun z r e => N1.1 z r e, (dGn_trans N1 N3).2, ?_⟩
    rw [if_pos rfl] at P3
    show dPh (h2.1.set 42 (.inl (4, 10, .inr (.inr (.inr (.inr (va_up g x1.toInt.toNat (some q))))))), h2.2) ≤ dPh h
    omega

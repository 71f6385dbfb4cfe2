/- 74: SectorDocument$Directory.isInside(II)Z -/
def vc74_23 : List vi_En := (23, .ireturn, 0, 0, 1) :: []
def vc74_22 : List vi_En := (22, .iconst 0, 0, 0, 0) :: vc74_23
def vc74_0 : List vi_En := (0, .aload_n 0, 0, 0, 0) :: (1, .iload_n 1, 0, 0, 0) :: (2, .invokevirtual 58, 61, 1, 3) :: (5, .ifCond .eq 17, 22, 0, 0) :: (8, .aload_n 0, 0, 0, 0) :: (9, .getfield 35, 3, 1, 2) :: (12, .iload_n 1, 0, 0, 0) :: (13, .iaload, 0, 0, 0) :: (14, .iload_n 2, 0, 0, 0) :: (15, .if_icmp .ne 7, 22, 0, 0) :: (18, .iconst 1, 0, 0, 0) :: (19, .goto 4, 23, 0, 0) :: vc74_22
/- 75: SectorDocument.find(II)I -/
def vc75_20 : List vi_En := (20, .ireturn, 0, 0, 0) :: []
def vc75_19 : List vi_En := (19, .iconst (-1), 0, 0, 0) :: vc75_20
def vc75_0 : List vi_En := (0, .aload_n 0, 0, 0, 0) :: (1, .getfield 48, 0, 5, 1) :: (4, .ifCond .eq 15, 19, 0, 0) :: (7, .aload_n 0, 0, 0, 0) :: (8, .getfield 21, 0, 1, 2) :: (11, .iload_n 1, 0, 0, 0) :: (12, .iload_n 2, 0, 0, 0) :: (13, .invokevirtual 95, 76, 2, 3) :: (16, .goto 4, 20, 0, 0) :: vc75_19
/- 76: SectorDocument$Directory.seek(II)I -/
def vc76_56 : List vi_En := (56, .iconst (-1), 0, 0, 0) :: (57, .ireturn, 0, 0, 0) :: []
def vc76_50 : List vi_En := (50, .iinc 3 1, 0, 0, 0) :: (53, .goto (-34), 19, 0, 0) :: vc76_56
def vc76_19 : List vi_En := (19, .iload_n 3, 0, 0, 0) :: (20, .aload_n 0, 0, 0, 0) :: (21, .getfield 55, 3, 12, 0) :: (24, .if_icmp .ge 32, 56, 0, 0) :: (27, .aload_n 0, 0, 0, 0) :: (28, .iload_n 3, 0, 0, 0) :: (29, .iload_n 1, 0, 0, 0) :: (30, .invokevirtual 124, 74, 2, 3) :: (33, .ifCond .eq 17, 50, 0, 0) :: (36, .aload_n 0, 0, 0, 0) :: (37, .iload_n 3, 0, 0, 0) :: (38, .invokevirtual 109, 41, 1, 3) :: (41, .iload_n 2, 0, 0, 0) :: (42, .invokestatic 128, 46, 2, 0) :: (45, .ifCond .ne 5, 50, 0, 0) :: (48, .iload_n 3, 0, 0, 0) :: (49, .ireturn, 0, 0, 0) :: vc76_50
def vc76_17 : List vi_En := (17, .iconst 1, 0, 0, 0) :: (18, .istore_n 3, 0, 0, 0) :: vc76_19
def vc76_15 : List vi_En := (15, .iconst (-1), 0, 0, 0) :: (16, .ireturn, 0, 0, 0) :: vc76_17
def vc76_0 : List vi_En := (0, .aload_n 0, 0, 0, 0) :: (1, .iload_n 1, 0, 0, 0) :: (2, .invokevirtual 58, 61, 1, 3) :: (5, .ifCond .eq 10, 15, 0, 0) :: (8, .iload_n 2, 0, 0, 0) :: (9, .invokestatic 112, 42, 1, 0) :: (12, .ifCond .ne 5, 17, 0, 0) :: vc76_15
/- 77: SectorDocument.place(II)I -/
def vc77_20 : List vi_En := (20, .ireturn, 0, 0, 0) :: []
def vc77_19 : List vi_En := (19, .iconst (-1), 0, 0, 0) :: vc77_20
def vc77_0 : List vi_En := (0, .aload_n 0, 0, 0, 0) :: (1, .getfield 48, 0, 5, 1) :: (4, .ifCond .eq 15, 19, 0, 0) :: (7, .aload_n 0, 0, 0, 0) :: (8, .getfield 37, 0, 3, 2) :: (11, .iload_n 1, 0, 0, 0) :: (12, .iload_n 2, 0, 0, 0) :: (13, .invokevirtual 99, 78, 2, 9) :: (16, .goto 4, 20, 0, 0) :: vc77_19
/- 78: SectorDocument$Streams.placeOf(II)I -/
def vc78_26 : List vi_En := (26, .aload_n 0, 0, 0, 0) :: (27, .iload_n 1, 0, 0, 0) :: (28, .invokevirtual 83, 63, 1, 9) :: (31, .aload_n 0, 0, 0, 0) :: (32, .iload_n 1, 0, 0, 0) :: (33, .iload_n 2, 0, 0, 0) :: (34, .invokevirtual 87, 79, 2, 9) :: (37, .ireturn, 0, 0, 0) :: []
def vc78_24 : List vi_En := (24, .iconst (-1), 0, 0, 0) :: (25, .ireturn, 0, 0, 0) :: vc78_26
def vc78_0 : List vi_En := (0, .aload_n 0, 0, 0, 0) :: (1, .iload_n 1, 0, 0, 0) :: (2, .invokevirtual 47, 60, 1, 9) :: (5, .ifCond .eq 19, 24, 0, 0) :: (8, .iload_n 2, 0, 0, 0) :: (9, .ifCond .lt 15, 24, 0, 0) :: (12, .iload_n 2, 0, 0, 0) :: (13, .aload_n 0, 0, 0, 0) :: (14, .getfield 15, 9, 1, 2) :: (17, .iload_n 1, 0, 0, 0) :: (18, .invokevirtual 80, 55, 1, 3) :: (21, .if_icmp .lt 5, 26, 0, 0) :: vc78_24
/- 79: SectorDocument$Streams.tracedPlace(II)I -/
def vc79_17 : List vi_En := (17, .aload_n 0, 0, 0, 0) :: (18, .getfield 19, 9, 2, 2) :: (21, .aload_n 0, 0, 0, 0) :: (22, .getfield 26, 9, 3, 2) :: (25, .iload_n 2, 0, 0, 0) :: (26, .iconst 2, 0, 0, 0) :: (27, .idiv, 0, 0, 0) :: (28, .invokevirtual 132, 80, 1, 2) :: (31, .iload_n 2, 0, 0, 0) :: (32, .iconst 2, 0, 0, 0) :: (33, .irem, 0, 0, 0) :: (34, .invokevirtual 135, 81, 2, 8) :: (37, .ireturn, 0, 0, 0) :: []
def vc79_0 : List vi_En := (0, .aload_n 0, 0, 0, 0) :: (1, .iload_n 1, 0, 0, 0) :: (2, .invokevirtual 119, 64, 1, 9) :: (5, .ifCond .eq 12, 17, 0, 0) :: (8, .aload_n 0, 0, 0, 0) :: (9, .getfield 26, 9, 3, 2) :: (12, .iload_n 2, 0, 0, 0) :: (13, .invokevirtual 129, 32, 1, 2) :: (16, .ireturn, 0, 0, 0) :: vc79_17
/- 80: SectorDocument$Chain.memberAt(I)I -/
def vc80_22 : List vi_En := (22, .ireturn, 0, 0, 0) :: []
def vc80_21 : List vi_En := (21, .iconst 0, 0, 0, 0) :: vc80_22
def vc80_0 : List vi_En := (0, .iload_n 1, 0, 0, 0) :: (1, .ifCond .lt 20, 21, 0, 0) :: (4, .iload_n 1, 0, 0, 0) :: (5, .aload_n 0, 0, 0, 0) :: (6, .getfield 15, 2, 1, 0) :: (9, .if_icmp .ge 12, 21, 0, 0) :: (12, .aload_n 0, 0, 0, 0) :: (13, .getfield 9, 2, 0, 2) :: (16, .iload_n 1, 0, 0, 0) :: (17, .iaload, 0, 0, 0) :: (18, .goto 4, 22, 0, 0) :: vc80_21
/- 81: SectorDocument$SmallSectors.wordPlace(II)I -/
def vc81_0 : List vi_En := (0, .aload_n 0, 0, 0, 0) :: (1, .getfield 18, 8, 0, 2) :: (4, .iconst 2, 0, 0, 0) :: (5, .iload_n 1, 0, 0, 0) :: (6, .imul, 0, 0, 0) :: (7, .iload_n 2, 0, 0, 0) :: (8, .iadd, 0, 0, 0) :: (9, .invokevirtual 63, 32, 1, 2) :: (12, .ireturn, 0, 0, 0) :: []
/- 82: SectorDocument.word(II)J -/
def vc82_27 : List vi_En := (27, .lreturn, 0, 0, 0) :: []
def vc82_18 : List vi_En := (18, .aload_n 0, 0, 0, 0) :: (19, .getfield 12, 0, 0, 2) :: (22, .iload_n 3, 0, 0, 0) :: (23, .invokevirtual 105, 22, 1, 7) :: (26, .i2l, 0, 0, 0) :: vc82_27
def vc82_0 : List vi_En := (0, .aload_n 0, 0, 0, 0) :: (1, .iload_n 1, 0, 0, 0) :: (2, .iload_n 2, 0, 0, 0) :: (3, .invokevirtual 102, 77, 2, 0) :: (6, .istore_n 3, 0, 0, 0) :: (7, .iload_n 3, 0, 0, 0) :: (8, .iconst (-1), 0, 0, 0) :: (9, .if_icmp .ne 9, 18, 0, 0) :: (12, .ldc2_w 77, 0, 0, 1099511627776) :: (15, .goto 12, 27, 0, 0) :: vc82_18
/- 83: SectorDocument.load()I -/
def vc83_33 : List vi_En := (33, .iload_n 1, 0, 0, 0) :: (34, .ireturn, 0, 0, 0) :: []
def vc83_0 : List vi_En := (0, .aload_n 0, 0, 0, 0) :: (1, .iconst 0, 0, 0, 0) :: (2, .putfield 52, 0, 6, 1) :: (5, .aload_n 0, 0, 0, 0) :: (6, .invokevirtual 108, 84, 0, 0) :: (9, .istore_n 1, 0, 0, 0) :: (10, .iload_n 1, 0, 0, 0) :: (11, .ifCond .ne 22, 33, 0, 0) :: (14, .aload_n 0, 0, 0, 0) :: (15, .getfield 44, 0, 4, 2) :: (18, .invokevirtual 111, 117, 0, 10) :: (21, .aload_n 0, 0, 0, 0) :: (22, .getfield 44, 0, 4, 2) :: (25, .invokevirtual 114, 126, 0, 10) :: (28, .aload_n 0, 0, 0, 0) :: (29, .iconst 1, 0, 0, 0) :: (30, .putfield 52, 0, 6, 1) :: vc83_33
/- 84: SectorDocument.firstBrokenOfDocument()I -/
def vc84_203 : List vi_En := (203, .ireturn, 0, 0, 0) :: []
def vc84_201 : List vi_En := (201, .bipush 20, 0, 0, 0) :: vc84_203
def vc84_187 : List vi_En := (187, .aload_n 0, 0, 0, 0) :: (188, .getfield 44, 0, 4, 2) :: (191, .invokevirtual 248, 112, 0, 10) :: (194, .ifCond .eq 7, 201, 0, 0) :: (197, .iconst 0, 0, 0, 0) :: (198, .goto 5, 203, 0, 0) :: vc84_201
def vc84_174 : List vi_En := (174, .aload_n 0, 0, 0, 0) :: (175, .getfield 44, 0, 4, 2) :: (178, .invokevirtual 245, 111, 0, 10) :: (181, .ifCond .ne 6, 187, 0, 0) :: (184, .bipush 19, 0, 0, 0) :: (186, .ireturn, 0, 0, 0) :: vc84_187
def vc84_161 : List vi_En := (161, .aload_n 0, 0, 0, 0) :: (162, .getfield 44, 0, 4, 2) :: (165, .invokevirtual 242, 110, 0, 10) :: (168, .ifCond .ne 6, 174, 0, 0) :: (171, .bipush 18, 0, 0, 0) :: (173, .ireturn, 0, 0, 0) :: vc84_174
def vc84_148 : List vi_En := (148, .aload_n 0, 0, 0, 0) :: (149, .getfield 44, 0, 4, 2) :: (152, .invokevirtual 239, 103, 0, 10) :: (155, .ifCond .ne 6, 161, 0, 0) :: (158, .bipush 17, 0, 0, 0) :: (160, .ireturn, 0, 0, 0) :: vc84_161
def vc84_135 : List vi_En := (135, .aload_n 0, 0, 0, 0) :: (136, .getfield 44, 0, 4, 2) :: (139, .invokevirtual 236, 99, 0, 10) :: (142, .ifCond .ne 6, 148, 0, 0) :: (145, .bipush 16, 0, 0, 0) :: (147, .ireturn, 0, 0, 0) :: vc84_148
def vc84_112 : List vi_En := (112, .aload_n 0, 0, 0, 0) :: (113, .getfield 44, 0, 4, 2) :: (116, .getfield 227, 10, 2, 2) :: (119, .aload_n 0, 0, 0, 0) :: (120, .getfield 44, 0, 4, 2) :: (123, .invokevirtual 117, 91, 0, 10) :: (126, .invokevirtual 231, 97, 1, 1) :: (129, .ifCond .ne 6, 135, 0, 0) :: (132, .bipush 15, 0, 0, 0) :: (134, .ireturn, 0, 0, 0) :: vc84_135
def vc84_99 : List vi_En := (99, .aload_n 0, 0, 0, 0) :: (100, .getfield 44, 0, 4, 2) :: (103, .invokevirtual 224, 92, 0, 10) :: (106, .ifCond .ne 6, 112, 0, 0) :: (109, .bipush 14, 0, 0, 0) :: (111, .ireturn, 0, 0, 0) :: vc84_112
def vc84_96 : List vi_En := (96, .bipush 13, 0, 0, 0) :: (98, .ireturn, 0, 0, 0) :: vc84_99
def vc84_55 : List vi_En := (55, .aload_n 0, 0, 0, 0) :: (56, .sipush 21552, 0, 0, 0) :: (59, .aload_n 0, 0, 0, 0) :: (60, .getfield 44, 0, 4, 2) :: (63, .getfield 204, 10, 0, 2) :: (66, .iconst 1, 0, 0, 0) :: (67, .invokevirtual 215, 88, 1, 11) :: (70, .iconst 1, 0, 0, 0) :: (71, .iand, 0, 0, 0) :: (72, .iadd, 0, 0, 0) :: (73, .aload_n 0, 0, 0, 0) :: (74, .getfield 44, 0, 4, 2) :: (77, .getfield 218, 10, 1, 2) :: (80, .invokevirtual 208, 85, 2, 0) :: (83, .ifCond .eq 13, 96, 0, 0) :: (86, .aload_n 0, 0, 0, 0) :: (87, .getfield 44, 0, 4, 2) :: (90, .invokevirtual 221, 89, 0, 10) :: (93, .ifCond .ne 6, 99, 0, 0) :: vc84_96
def vc84_36 : List vi_En := (36, .aload_n 0, 0, 0, 0) :: (37, .getfield 44, 0, 4, 2) :: (40, .getfield 204, 10, 0, 2) :: (43, .iconst 1, 0, 0, 0) :: (44, .invokevirtual 215, 88, 1, 11) :: (47, .iconst 2, 0, 0, 0) :: (48, .iand, 0, 0, 0) :: (49, .ifCond .eq 6, 55, 0, 0) :: (52, .bipush 12, 0, 0, 0) :: (54, .ireturn, 0, 0, 0) :: vc84_55
def vc84_33 : List vi_En := (33, .bipush 11, 0, 0, 0) :: (35, .ireturn, 0, 0, 0) :: vc84_36
def vc84_0 : List vi_En := (0, .aload_n 0, 0, 0, 0) :: (1, .getfield 48, 0, 5, 1) :: (4, .ifCond .eq 29, 33, 0, 0) :: (7, .aload_n 0, 0, 0, 0) :: (8, .ldc 203, 0, 0, 4476739) :: (10, .aload_n 0, 0, 0, 0) :: (11, .getfield 44, 0, 4, 2) :: (14, .getfield 204, 10, 0, 2) :: (17, .invokevirtual 208, 85, 2, 0) :: (20, .ifCond .eq 13, 33, 0, 0) :: (23, .aload_n 0, 0, 0, 0) :: (24, .getfield 44, 0, 4, 2) :: (27, .invokevirtual 212, 87, 0, 10) :: (30, .ifCond .ne 6, 36, 0, 0) :: vc84_33
/- 85: SectorDocument.takeStream(ILSectorDocument$Words;)Z -/
def vc85_23 : List vi_En := (23, .aload_n 0, 0, 0, 0) :: (24, .getfield 37, 0, 3, 2) :: (27, .iload_n 3, 0, 0, 0) :: (28, .aload_n 2, 0, 0, 0) :: (29, .invokevirtual 254, 86, 2, 9) :: (32, .iconst 1, 0, 0, 0) :: (33, .ireturn, 0, 0, 1) :: []
def vc85_0 : List vi_En := (0, .aload_n 0, 0, 0, 0) :: (1, .getfield 21, 0, 1, 2) :: (4, .iconst 0, 0, 0, 0) :: (5, .iload_n 1, 0, 0, 0) :: (6, .invokevirtual 95, 76, 2, 3) :: (9, .istore_n 3, 0, 0, 0) :: (10, .aload_n 0, 0, 0, 0) :: (11, .getfield 37, 0, 3, 2) :: (14, .iload_n 3, 0, 0, 0) :: (15, .invokevirtual 251, 60, 1, 9) :: (18, .ifCond .ne 5, 23, 0, 0) :: (21, .iconst 0, 0, 0, 0) :: (22, .ireturn, 0, 0, 1) :: vc85_23
/- 86: SectorDocument$Streams.copyTo(ILSectorDocument$Words;)V -/
def vc86_58 : List vi_En := (58, .return_, 0, 0, 0) :: []
def vc86_25 : List vi_En := (25, .iload_n 3, 0, 0, 0) :: (26, .aload_n 2, 0, 0, 0) :: (27, .getfield 96, 11, 1, 0) :: (30, .if_icmp .ge 28, 58, 0, 0) :: (33, .aload_n 2, 0, 0, 0) :: (34, .getfield 102, 11, 0, 2) :: (37, .iload_n 3, 0, 0, 0) :: (38, .aload_n 0, 0, 0, 0) :: (39, .getfield 9, 9, 0, 2) :: (42, .aload_n 0, 0, 0, 0) :: (43, .iload_n 1, 0, 0, 0) :: (44, .iload_n 3, 0, 0, 0) :: (45, .invokevirtual 87, 79, 2, 9) :: (48, .invokevirtual 106, 22, 1, 7) :: (51, .iastore, 0, 0, 0) :: (52, .iinc 3 1, 0, 0, 0) :: (55, .goto (-30), 25, 0, 0) :: vc86_58
def vc86_0 : List vi_En := (0, .aload_n 2, 0, 0, 0) :: (1, .aload_n 0, 0, 0, 0) :: (2, .getfield 15, 9, 1, 2) :: (5, .iload_n 1, 0, 0, 0) :: (6, .invokevirtual 80, 55, 1, 3) :: (9, .sipush 192, 0, 0, 0) :: (12, .invokestatic 91, 20, 2, 0) :: (15, .putfield 96, 11, 1, 0) :: (18, .aload_n 0, 0, 0, 0) :: (19, .iload_n 1, 0, 0, 0) :: (20, .invokevirtual 83, 63, 1, 9) :: (23, .iconst 0, 0, 0, 0) :: (24, .istore_n 3, 0, 0, 0) :: vc86_25
/- 87: SectorDocument$Text.bodyHolds()Z -/
def vc87_30 : List vi_En := (30, .ireturn, 0, 0, 1) :: []
def vc87_29 : List vi_En := (29, .iconst 0, 0, 0, 0) :: vc87_30
def vc87_0 : List vi_En := (0, .aload_n 0, 0, 0, 0) :: (1, .getfield 12, 10, 0, 2) :: (4, .getfield 81, 11, 1, 0) :: (7, .bipush 12, 0, 0, 0) :: (9, .if_icmp .lt 20, 29, 0, 0) :: (12, .aload_n 0, 0, 0, 0) :: (13, .getfield 12, 10, 0, 2) :: (16, .iconst 0, 0, 0, 0) :: (17, .invokevirtual 84, 88, 1, 11) :: (20, .ldc 88, 0, 0, 42476) :: (22, .if_icmp .ne 7, 29, 0, 0) :: (25, .iconst 1, 0, 0, 0) :: (26, .goto 4, 30, 0, 0) :: vc87_29
/- 88: SectorDocument$Words.at(I)I -/
def vc88_22 : List vi_En := (22, .ireturn, 0, 0, 0) :: []
def vc88_21 : List vi_En := (21, .iconst 0, 0, 0, 0) :: vc88_22
def vc88_0 : List vi_En := (0, .iload_n 1, 0, 0, 0) :: (1, .ifCond .lt 20, 21, 0, 0) :: (4, .iload_n 1, 0, 0, 0) :: (5, .aload_n 0, 0, 0, 0) :: (6, .getfield 15, 11, 1, 0) :: (9, .if_icmp .ge 12, 21, 0, 0) :: (12, .aload_n 0, 0, 0, 0) :: (13, .getfield 9, 11, 0, 2) :: (16, .iload_n 1, 0, 0, 0) :: (17, .iaload, 0, 0, 0) :: (18, .goto 4, 22, 0, 0) :: vc88_21
/- 89: SectorDocument$Text.lengthsHold()Z -/
def vc89_49 : List vi_En := (49, .ireturn, 0, 0, 1) :: []
def vc89_48 : List vi_En := (48, .iconst 0, 0, 0, 0) :: vc89_49
def vc89_34 : List vi_En := (34, .aload_n 0, 0, 0, 0) :: (35, .invokevirtual 92, 91, 0, 10) :: (38, .sipush 400, 0, 0, 0) :: (41, .if_icmp .gt 7, 48, 0, 0) :: (44, .iconst 1, 0, 0, 0) :: (45, .goto 4, 49, 0, 0) :: vc89_48
def vc89_28 : List vi_En := (28, .iinc 1 1, 0, 0, 0) :: (31, .goto (-29), 2, 0, 0) :: vc89_34
def vc89_26 : List vi_En := (26, .iconst 0, 0, 0, 0) :: (27, .ireturn, 0, 0, 1) :: vc89_28
def vc89_2 : List vi_En := (2, .iload_n 1, 0, 0, 0) :: (3, .iconst 3, 0, 0, 0) :: (4, .if_icmp .ge 30, 34, 0, 0) :: (7, .aload_n 0, 0, 0, 0) :: (8, .iload_n 1, 0, 0, 0) :: (9, .invokevirtual 89, 90, 1, 10) :: (12, .ifCond .lt 14, 26, 0, 0) :: (15, .aload_n 0, 0, 0, 0) :: (16, .iload_n 1, 0, 0, 0) :: (17, .invokevirtual 89, 90, 1, 10) :: (20, .sipush 400, 0, 0, 0) :: (23, .if_icmp .le 5, 28, 0, 0) :: vc89_26
def vc89_0 : List vi_En := (0, .iconst 0, 0, 0, 0) :: (1, .istore_n 1, 0, 0, 0) :: vc89_2
/- 90: SectorDocument$Text.partLength(I)I -/
def vc90_0 : List vi_En := (0, .aload_n 0, 0, 0, 0) :: (1, .getfield 12, 10, 0, 2) :: (4, .iconst 2, 0, 0, 0) :: (5, .iload_n 1, 0, 0, 0) :: (6, .iadd, 0, 0, 0) :: (7, .invokevirtual 84, 88, 1, 11) :: (10, .ireturn, 0, 0, 0) :: []
/- 91: SectorDocument$Text.total()I -/
def vc91_0 : List vi_En := (0, .aload_n 0, 0, 0, 0) :: (1, .iconst 0, 0, 0, 0) :: (2, .invokevirtual 89, 90, 1, 10) :: (5, .aload_n 0, 0, 0, 0) :: (6, .iconst 1, 0, 0, 0) :: (7, .invokevirtual 89, 90, 1, 10) :: (10, .iadd, 0, 0, 0) :: (11, .aload_n 0, 0, 0, 0) :: (12, .iconst 2, 0, 0, 0) :: (13, .invokevirtual 89, 90, 1, 10) :: (16, .iadd, 0, 0, 0) :: (17, .ireturn, 0, 0, 0) :: []
/- 92: SectorDocument$Text.piecesHold()Z -/
def vc92_196 : List vi_En := (196, .ireturn, 0, 0, 1) :: []
def vc92_195 : List vi_En := (195, .iconst 0, 0, 0, 0) :: vc92_196
def vc92_142 : List vi_En := (142, .iload 4, 0, 0, 0) :: (144, .iload_n 3, 0, 0, 0) :: (145, .if_icmp .ge 50, 195, 0, 0) :: (148, .aload_n 0, 0, 0, 0) :: (149, .getfield 18, 10, 1, 2) :: (152, .iload 4, 0, 0, 0) :: (154, .invokevirtual 84, 88, 1, 11) :: (157, .iconst 2, 0, 0, 0) :: (158, .if_icmp .ne 37, 195, 0, 0) :: (161, .aload_n 0, 0, 0, 0) :: (162, .getfield 26, 10, 2, 2) :: (165, .iload 4, 0, 0, 0) :: (167, .iconst 1, 0, 0, 0) :: (168, .iadd, 0, 0, 0) :: (169, .invokevirtual 100, 95, 1, 1) :: (172, .ifCond .eq 23, 195, 0, 0) :: (175, .iload 4, 0, 0, 0) :: (177, .iconst 1, 0, 0, 0) :: (178, .iadd, 0, 0, 0) :: (179, .aload_n 0, 0, 0, 0) :: (180, .getfield 26, 10, 2, 2) :: (183, .invokevirtual 103, 96, 0, 1) :: (186, .iadd, 0, 0, 0) :: (187, .iload_n 3, 0, 0, 0) :: (188, .if_icmp .ne 7, 195, 0, 0) :: (191, .iconst 1, 0, 0, 0) :: (192, .goto 4, 196, 0, 0) :: vc92_195
def vc92_98 : List vi_En := (98, .aload_n 0, 0, 0, 0) :: (99, .getfield 49, 10, 8, 2) :: (102, .aload_n 0, 0, 0, 0) :: (103, .getfield 77, 10, 13, 0) :: (106, .iload 4, 0, 0, 0) :: (108, .iconst 1, 0, 0, 0) :: (109, .iadd, 0, 0, 0) :: (110, .iastore, 0, 0, 0) :: (111, .aload_n 0, 0, 0, 0) :: (112, .dup, 0, 0, 0) :: (113, .getfield 77, 10, 13, 0) :: (116, .iconst 1, 0, 0, 0) :: (117, .iadd, 0, 0, 0) :: (118, .putfield 77, 10, 13, 0) :: (121, .iload 4, 0, 0, 0) :: (123, .iconst 2, 0, 0, 0) :: (124, .aload_n 0, 0, 0, 0) :: (125, .getfield 18, 10, 1, 2) :: (128, .iload 4, 0, 0, 0) :: (130, .iconst 1, 0, 0, 0) :: (131, .iadd, 0, 0, 0) :: (132, .invokevirtual 84, 88, 1, 11) :: (135, .iadd, 0, 0, 0) :: (136, .iadd, 0, 0, 0) :: (137, .istore 4, 0, 0, 0) :: (139, .goto (-85), 54, 0, 0) :: vc92_142
def vc92_54 : List vi_En := (54, .aload_n 0, 0, 0, 0) :: (55, .getfield 77, 10, 13, 0) :: (58, .bipush 12, 0, 0, 0) :: (60, .if_icmp .ge 82, 142, 0, 0) :: (63, .iload 4, 0, 0, 0) :: (65, .iload_n 3, 0, 0, 0) :: (66, .if_icmp .ge 76, 142, 0, 0) :: (69, .aload_n 0, 0, 0, 0) :: (70, .getfield 18, 10, 1, 2) :: (73, .iload 4, 0, 0, 0) :: (75, .invokevirtual 84, 88, 1, 11) :: (78, .iconst 1, 0, 0, 0) :: (79, .if_icmp .ne 63, 142, 0, 0) :: (82, .aload_n 0, 0, 0, 0) :: (83, .getfield 41, 10, 7, 2) :: (86, .iload 4, 0, 0, 0) :: (88, .iconst 1, 0, 0, 0) :: (89, .iadd, 0, 0, 0) :: (90, .invokevirtual 96, 93, 1, 5) :: (93, .ifCond .ne 5, 98, 0, 0) :: (96, .iconst 0, 0, 0, 0) :: (97, .ireturn, 0, 0, 1) :: vc92_98
def vc92_42 : List vi_En := (42, .iload_n 1, 0, 0, 0) :: (43, .iload_n 2, 0, 0, 0) :: (44, .iadd, 0, 0, 0) :: (45, .istore_n 3, 0, 0, 0) :: (46, .iload_n 1, 0, 0, 0) :: (47, .istore 4, 0, 0, 0) :: (49, .aload_n 0, 0, 0, 0) :: (50, .iconst 0, 0, 0, 0) :: (51, .putfield 77, 10, 13, 0) :: vc92_54
def vc92_40 : List vi_En := (40, .iconst 0, 0, 0, 0) :: (41, .ireturn, 0, 0, 1) :: vc92_42
def vc92_0 : List vi_En := (0, .aload_n 0, 0, 0, 0) :: (1, .getfield 12, 10, 0, 2) :: (4, .iconst 5, 0, 0, 0) :: (5, .invokevirtual 84, 88, 1, 11) :: (8, .istore_n 1, 0, 0, 0) :: (9, .aload_n 0, 0, 0, 0) :: (10, .getfield 12, 10, 0, 2) :: (13, .bipush 6, 0, 0, 0) :: (15, .invokevirtual 84, 88, 1, 11) :: (18, .istore_n 2, 0, 0, 0) :: (19, .iload_n 1, 0, 0, 0) :: (20, .ifCond .lt 20, 40, 0, 0) :: (23, .iload_n 2, 0, 0, 0) :: (24, .ifCond .lt 16, 40, 0, 0) :: (27, .iload_n 2, 0, 0, 0) :: (28, .aload_n 0, 0, 0, 0) :: (29, .getfield 18, 10, 1, 2) :: (32, .getfield 81, 11, 1, 0) :: (35, .iload_n 1, 0, 0, 0) :: (36, .isub, 0, 0, 0) :: (37, .if_icmp .le 5, 42, 0, 0) :: vc92_40
/- 93: SectorDocument$Groups.isGroup(I)Z -/
def vc93_47 : List vi_En := (47, .ireturn, 0, 0, 1) :: []
def vc93_46 : List vi_En := (46, .iconst 0, 0, 0, 0) :: vc93_47
def vc93_0 : List vi_En := (0, .aload_n 0, 0, 0, 0) :: (1, .getfield 9, 5, 0, 2) :: (4, .iload_n 1, 0, 0, 0) :: (5, .invokevirtual 15, 94, 1, 11) :: (8, .ifCond .eq 38, 46, 0, 0) :: (11, .aload_n 0, 0, 0, 0) :: (12, .getfield 9, 5, 0, 2) :: (15, .iload_n 1, 0, 0, 0) :: (16, .invokevirtual 21, 88, 1, 11) :: (19, .ifCond .lt 27, 46, 0, 0) :: (22, .aload_n 0, 0, 0, 0) :: (23, .getfield 9, 5, 0, 2) :: (26, .iload_n 1, 0, 0, 0) :: (27, .invokevirtual 21, 88, 1, 11) :: (30, .aload_n 0, 0, 0, 0) :: (31, .getfield 9, 5, 0, 2) :: (34, .getfield 25, 11, 1, 0) :: (37, .iload_n 1, 0, 0, 0) :: (38, .isub, 0, 0, 0) :: (39, .if_icmp .ge 7, 46, 0, 0) :: (42, .iconst 1, 0, 0, 0) :: (43, .goto 4, 47, 0, 0) :: vc93_46
/- 94: SectorDocument$Words.exists(I)Z -/
def vc94_17 : List vi_En := (17, .ireturn, 0, 0, 1) :: []
def vc94_16 : List vi_En := (16, .iconst 0, 0, 0, 0) :: vc94_17
def vc94_0 : List vi_En := (0, .iload_n 1, 0, 0, 0) :: (1, .ifCond .lt 15, 16, 0, 0) :: (4, .iload_n 1, 0, 0, 0) :: (5, .aload_n 0, 0, 0, 0) :: (6, .getfield 15, 11, 1, 0) :: (9, .if_icmp .ge 7, 16, 0, 0) :: (12, .iconst 1, 0, 0, 0) :: (13, .goto 4, 17, 0, 0) :: vc94_16
/- 95: SectorDocument$Bands.take(I)Z -/
def vc95_66 : List vi_En := (66, .ireturn, 0, 0, 1) :: []
def vc95_65 : List vi_En := (65, .iconst 0, 0, 0, 0) :: vc95_66
def vc95_0 : List vi_En := (0, .aload_n 0, 0, 0, 0) :: (1, .iload_n 1, 0, 0, 0) :: (2, .putfield 19, 1, 2, 0) :: (5, .aload_n 0, 0, 0, 0) :: (6, .aload_n 0, 0, 0, 0) :: (7, .getfield 9, 1, 0, 2) :: (10, .iload_n 1, 0, 0, 0) :: (11, .invokevirtual 25, 88, 1, 11) :: (14, .putfield 22, 1, 3, 0) :: (17, .aload_n 0, 0, 0, 0) :: (18, .getfield 9, 1, 0, 2) :: (21, .iload_n 1, 0, 0, 0) :: (22, .invokevirtual 31, 94, 1, 11) :: (25, .ifCond .eq 40, 65, 0, 0) :: (28, .aload_n 0, 0, 0, 0) :: (29, .getfield 22, 1, 3, 0) :: (32, .iconst 1, 0, 0, 0) :: (33, .if_icmp .lt 32, 65, 0, 0) :: (36, .aload_n 0, 0, 0, 0) :: (37, .getfield 22, 1, 3, 0) :: (40, .bipush 12, 0, 0, 0) :: (42, .if_icmp .gt 23, 65, 0, 0) :: (45, .aload_n 0, 0, 0, 0) :: (46, .invokevirtual 35, 96, 0, 1) :: (49, .aload_n 0, 0, 0, 0) :: (50, .getfield 9, 1, 0, 2) :: (53, .getfield 39, 11, 1, 0) :: (56, .iload_n 1, 0, 0, 0) :: (57, .isub, 0, 0, 0) :: (58, .if_icmp .gt 7, 65, 0, 0) :: (61, .iconst 1, 0, 0, 0) :: (62, .goto 4, 66, 0, 0) :: vc95_65
/- 96: SectorDocument$Bands.size()I -/
def vc96_0 : List vi_En := (0, .iconst 2, 0, 0, 0) :: (1, .aload_n 0, 0, 0, 0) :: (2, .getfield 22, 1, 3, 0) :: (5, .iadd, 0, 0, 0) :: (6, .aload_n 0, 0, 0, 0) :: (7, .getfield 15, 1, 1, 0) :: (10, .aload_n 0, 0, 0, 0) :: (11, .getfield 22, 1, 3, 0) :: (14, .imul, 0, 0, 0) :: (15, .iadd, 0, 0, 0) :: (16, .ireturn, 0, 0, 0) :: []
/- 97: SectorDocument$Bands.limitsHold(I)Z -/
def vc97_55 : List vi_En := (55, .iconst 1, 0, 0, 0) :: (56, .ireturn, 0, 0, 1) :: []
def vc97_49 : List vi_En := (49, .iinc 2 1, 0, 0, 0) :: (52, .goto (-28), 24, 0, 0) :: vc97_55
def vc97_24 : List vi_En := (24, .iload_n 2, 0, 0, 0) :: (25, .aload_n 0, 0, 0, 0) :: (26, .getfield 22, 1, 3, 0) :: (29, .if_icmp .ge 26, 55, 0, 0) :: (32, .aload_n 0, 0, 0, 0) :: (33, .iload_n 2, 0, 0, 0) :: (34, .invokevirtual 40, 98, 1, 1) :: (37, .aload_n 0, 0, 0, 0) :: (38, .iload_n 2, 0, 0, 0) :: (39, .iconst 1, 0, 0, 0) :: (40, .iadd, 0, 0, 0) :: (41, .invokevirtual 40, 98, 1, 1) :: (44, .if_icmp .lt 5, 49, 0, 0) :: (47, .iconst 0, 0, 0, 0) :: (48, .ireturn, 0, 0, 1) :: vc97_49
def vc97_22 : List vi_En := (22, .iconst 0, 0, 0, 0) :: (23, .istore_n 2, 0, 0, 0) :: vc97_24
def vc97_20 : List vi_En := (20, .iconst 0, 0, 0, 0) :: (21, .ireturn, 0, 0, 1) :: vc97_22
def vc97_0 : List vi_En := (0, .aload_n 0, 0, 0, 0) :: (1, .iconst 0, 0, 0, 0) :: (2, .invokevirtual 40, 98, 1, 1) :: (5, .ifCond .ne 15, 20, 0, 0) :: (8, .aload_n 0, 0, 0, 0) :: (9, .aload_n 0, 0, 0, 0) :: (10, .getfield 22, 1, 3, 0) :: (13, .invokevirtual 40, 98, 1, 1) :: (16, .iload_n 1, 0, 0, 0) :: (17, .if_icmp .eq 5, 22, 0, 0) :: vc97_20
/- 98: SectorDocument$Bands.limit(I)I -/
def vc98_0 : List vi_En := (0, .aload_n 0, 0, 0, 0) :: (1, .getfield 9, 1, 0, 2) :: (4, .aload_n 0, 0, 0, 0) :: (5, .getfield 19, 1, 2, 0) :: (8, .iconst 1, 0, 0, 0) :: (9, .iadd, 0, 0, 0) :: (10, .iload_n 1, 0, 0, 0) :: (11, .iadd, 0, 0, 0) :: (12, .invokevirtual 25, 88, 1, 11) :: (15, .ireturn, 0, 0, 0) :: []
/- 99: SectorDocument$Text.pieceCellsHold()Z -/
def vc99_51 : List vi_En := (51, .iconst 1, 0, 0, 0) :: (52, .ireturn, 0, 0, 1) :: []
def vc99_45 : List vi_En := (45, .iinc 1 1, 0, 0, 0) :: (48, .goto (-46), 2, 0, 0) :: vc99_51
def vc99_43 : List vi_En := (43, .iconst 0, 0, 0, 0) :: (44, .ireturn, 0, 0, 1) :: vc99_45
def vc99_2 : List vi_En := (2, .iload_n 1, 0, 0, 0) :: (3, .aload_n 0, 0, 0, 0) :: (4, .getfield 26, 10, 2, 2) :: (7, .getfield 106, 1, 3, 0) :: (10, .if_icmp .ge 41, 51, 0, 0) :: (13, .aload_n 0, 0, 0, 0) :: (14, .getfield 26, 10, 2, 2) :: (17, .iconst 1, 0, 0, 0) :: (18, .iload_n 1, 0, 0, 0) :: (19, .invokevirtual 107, 100, 2, 1) :: (22, .istore_n 2, 0, 0, 0) :: (23, .aload_n 0, 0, 0, 0) :: (24, .iload_n 1, 0, 0, 0) :: (25, .invokevirtual 111, 101, 1, 10) :: (28, .ifCond .eq 15, 43, 0, 0) :: (31, .iload_n 2, 0, 0, 0) :: (32, .ifCond .lt 11, 43, 0, 0) :: (35, .iload_n 2, 0, 0, 0) :: (36, .aload_n 0, 0, 0, 0) :: (37, .getfield 77, 10, 13, 0) :: (40, .if_icmp .le 5, 45, 0, 0) :: vc99_43
def vc99_0 : List vi_En := (0, .iconst 0, 0, 0, 0) :: (1, .istore_n 1, 0, 0, 0) :: vc99_2
/- 100: SectorDocument$Bands.cell(II)I -/
def vc100_0 : List vi_En := (0, .aload_n 0, 0, 0, 0) :: (1, .getfield 9, 1, 0, 2) :: (4, .aload_n 0, 0, 0, 0) :: (5, .getfield 19, 1, 2, 0) :: (8, .iconst 2, 0, 0, 0) :: (9, .iadd, 0, 0, 0) :: (10, .aload_n 0, 0, 0, 0) :: (11, .getfield 22, 1, 3, 0) :: (14, .iadd, 0, 0, 0) :: (15, .iload_n 1, 0, 0, 0) :: (16, .aload_n 0, 0, 0, 0) :: (17, .getfield 22, 1, 3, 0) :: (20, .imul, 0, 0, 0) :: (21, .iadd, 0, 0, 0) :: (22, .iload_n 2, 0, 0, 0) :: (23, .iadd, 0, 0, 0) :: (24, .invokevirtual 25, 88, 1, 11) :: (27, .ireturn, 0, 0, 0) :: []
/- 101: SectorDocument$Text.hasItsBytes(I)Z -/
def vc101_61 : List vi_En := (61, .ireturn, 0, 0, 1) :: []
def vc101_60 : List vi_En := (60, .iconst 0, 0, 0, 0) :: vc101_61
def vc101_16 : List vi_En := (16, .aload_n 0, 0, 0, 0) :: (17, .getfield 26, 10, 2, 2) :: (20, .iload_n 1, 0, 0, 0) :: (21, .iconst 1, 0, 0, 0) :: (22, .iadd, 0, 0, 0) :: (23, .invokevirtual 173, 98, 1, 1) :: (26, .aload_n 0, 0, 0, 0) :: (27, .getfield 26, 10, 2, 2) :: (30, .iload_n 1, 0, 0, 0) :: (31, .invokevirtual 173, 98, 1, 1) :: (34, .isub, 0, 0, 0) :: (35, .iconst 1, 0, 0, 0) :: (36, .isub, 0, 0, 0) :: (37, .istore_n 3, 0, 0, 0) :: (38, .aload_n 0, 0, 0, 0) :: (39, .iload_n 2, 0, 0, 0) :: (40, .iload_n 3, 0, 0, 0) :: (41, .invokevirtual 176, 102, 2, 10) :: (44, .iconst 4, 0, 0, 0) :: (45, .aload_n 0, 0, 0, 0) :: (46, .getfield 12, 10, 0, 2) :: (49, .getfield 81, 11, 1, 0) :: (52, .imul, 0, 0, 0) :: (53, .if_icmp .ge 7, 60, 0, 0) :: (56, .iconst 1, 0, 0, 0) :: (57, .goto 4, 61, 0, 0) :: vc101_60
def vc101_0 : List vi_En := (0, .aload_n 0, 0, 0, 0) :: (1, .getfield 26, 10, 2, 2) :: (4, .iconst 0, 0, 0, 0) :: (5, .iload_n 1, 0, 0, 0) :: (6, .invokevirtual 107, 100, 2, 1) :: (9, .istore_n 2, 0, 0, 0) :: (10, .iload_n 2, 0, 0, 0) :: (11, .ifCond .ge 5, 16, 0, 0) :: (14, .iconst 0, 0, 0, 0) :: (15, .ireturn, 0, 0, 1) :: vc101_16
/- 102: SectorDocument$Text.lastByte(II)I -/
def vc102_27 : List vi_En := (27, .ireturn, 0, 0, 0) :: []
def vc102_20 : List vi_En := (20, .iload_n 3, 0, 0, 0) :: (21, .iconst 2, 0, 0, 0) :: (22, .iload_n 2, 0, 0, 0) :: (23, .imul, 0, 0, 0) :: (24, .iadd, 0, 0, 0) :: (25, .iconst 1, 0, 0, 0) :: (26, .iadd, 0, 0, 0) :: vc102_27
def vc102_0 : List vi_En := (0, .iload_n 1, 0, 0, 0) :: (1, .ldc 179, 0, 0, (-1073741825)) :: (3, .iand, 0, 0, 0) :: (4, .istore_n 3, 0, 0, 0) :: (5, .iload_n 1, 0, 0, 0) :: (6, .ldc 180, 0, 0, 1073741824) :: (8, .iand, 0, 0, 0) :: (9, .ifCond .eq 11, 20, 0, 0) :: (12, .iload_n 3, 0, 0, 0) :: (13, .iconst 2, 0, 0, 0) :: (14, .idiv, 0, 0, 0) :: (15, .iload_n 2, 0, 0, 0) :: (16, .iadd, 0, 0, 0) :: (17, .goto 10, 27, 0, 0) :: vc102_20
/- 103: SectorDocument$Text.stylesHold()Z -/
def vc103_93 : List vi_En := (93, .iconst 1, 0, 0, 0) :: (94, .ireturn, 0, 0, 1) :: []
def vc103_87 : List vi_En := (87, .iinc 2 1, 0, 0, 0) :: (90, .goto (-33), 57, 0, 0) :: vc103_93
def vc103_85 : List vi_En := (85, .iconst 0, 0, 0, 0) :: (86, .ireturn, 0, 0, 1) :: vc103_87
def vc103_57 : List vi_En := (57, .iload_n 2, 0, 0, 0) :: (58, .iload_n 1, 0, 0, 0) :: (59, .if_icmp .ge 34, 93, 0, 0) :: (62, .aload_n 0, 0, 0, 0) :: (63, .iload_n 2, 0, 0, 0) :: (64, .invokevirtual 117, 105, 1, 10) :: (67, .ifCond .eq 18, 85, 0, 0) :: (70, .aload_n 0, 0, 0, 0) :: (71, .getfield 41, 10, 7, 2) :: (74, .aload_n 0, 0, 0, 0) :: (75, .iload_n 2, 0, 0, 0) :: (76, .invokevirtual 120, 108, 1, 10) :: (79, .invokevirtual 123, 109, 1, 5) :: (82, .ifCond .ne 5, 87, 0, 0) :: vc103_85
def vc103_55 : List vi_En := (55, .iconst 0, 0, 0, 0) :: (56, .istore_n 2, 0, 0, 0) :: vc103_57
def vc103_53 : List vi_En := (53, .iconst 0, 0, 0, 0) :: (54, .ireturn, 0, 0, 1) :: vc103_55
def vc103_18 : List vi_En := (18, .aload_n 0, 0, 0, 0) :: (19, .getfield 12, 10, 0, 2) :: (22, .bipush 7, 0, 0, 0) :: (24, .invokevirtual 84, 88, 1, 11) :: (27, .ifCond .lt 26, 53, 0, 0) :: (30, .aload_n 0, 0, 0, 0) :: (31, .getfield 12, 10, 0, 2) :: (34, .bipush 7, 0, 0, 0) :: (36, .invokevirtual 84, 88, 1, 11) :: (39, .aload_n 0, 0, 0, 0) :: (40, .getfield 18, 10, 1, 2) :: (43, .getfield 81, 11, 1, 0) :: (46, .iconst 2, 0, 0, 0) :: (47, .iload_n 1, 0, 0, 0) :: (48, .imul, 0, 0, 0) :: (49, .isub, 0, 0, 0) :: (50, .if_icmp .le 5, 55, 0, 0) :: vc103_53
def vc103_16 : List vi_En := (16, .iconst 0, 0, 0, 0) :: (17, .ireturn, 0, 0, 1) :: vc103_18
def vc103_0 : List vi_En := (0, .aload_n 0, 0, 0, 0) :: (1, .invokevirtual 114, 104, 0, 10) :: (4, .istore_n 1, 0, 0, 0) :: (5, .iload_n 1, 0, 0, 0) :: (6, .iconst 1, 0, 0, 0) :: (7, .if_icmp .lt 9, 16, 0, 0) :: (10, .iload_n 1, 0, 0, 0) :: (11, .bipush 10, 0, 0, 0) :: (13, .if_icmp .le 5, 18, 0, 0) :: vc103_16
/- 104: SectorDocument$Text.styleCount()I -/
def vc104_0 : List vi_En := (0, .aload_n 0, 0, 0, 0) :: (1, .getfield 12, 10, 0, 2) :: (4, .bipush 8, 0, 0, 0) :: (6, .invokevirtual 84, 88, 1, 11) :: (9, .ireturn, 0, 0, 0) :: []
/- 105: SectorDocument$Text.hasFirstAncestor(I)Z -/
def vc105_40 : List vi_En := (40, .ireturn, 0, 0, 1) :: []
def vc105_39 : List vi_En := (39, .iconst 0, 0, 0, 0) :: vc105_40
def vc105_30 : List vi_En := (30, .iload_n 2, 0, 0, 0) :: (31, .iconst (-1), 0, 0, 0) :: (32, .if_icmp .ne 7, 39, 0, 0) :: (35, .iconst 1, 0, 0, 0) :: (36, .goto 4, 40, 0, 0) :: vc105_39
def vc105_4 : List vi_En := (4, .iload_n 3, 0, 0, 0) :: (5, .bipush 10, 0, 0, 0) :: (7, .if_icmp .ge 23, 30, 0, 0) :: (10, .aload_n 0, 0, 0, 0) :: (11, .iload_n 2, 0, 0, 0) :: (12, .invokevirtual 129, 106, 1, 10) :: (15, .ifCond .eq 15, 30, 0, 0) :: (18, .aload_n 0, 0, 0, 0) :: (19, .iload_n 2, 0, 0, 0) :: (20, .invokevirtual 190, 107, 1, 10) :: (23, .istore_n 2, 0, 0, 0) :: (24, .iinc 3 1, 0, 0, 0) :: (27, .goto (-23), 4, 0, 0) :: vc105_30
def vc105_0 : List vi_En := (0, .iload_n 1, 0, 0, 0) :: (1, .istore_n 2, 0, 0, 0) :: (2, .iconst 0, 0, 0, 0) :: (3, .istore_n 3, 0, 0, 0) :: vc105_4
/- 106: SectorDocument$Text.isStyle(I)Z -/
def vc106_23 : List vi_En := (23, .ireturn, 0, 0, 1) :: []
def vc106_22 : List vi_En := (22, .iconst 0, 0, 0, 0) :: vc106_23
def vc106_0 : List vi_En := (0, .iload_n 1, 0, 0, 0) :: (1, .ifCond .lt 21, 22, 0, 0) :: (4, .iload_n 1, 0, 0, 0) :: (5, .aload_n 0, 0, 0, 0) :: (6, .invokevirtual 114, 104, 0, 10) :: (9, .if_icmp .ge 13, 22, 0, 0) :: (12, .iload_n 1, 0, 0, 0) :: (13, .bipush 10, 0, 0, 0) :: (15, .if_icmp .ge 7, 22, 0, 0) :: (18, .iconst 1, 0, 0, 0) :: (19, .goto 4, 23, 0, 0) :: vc106_22
/- 107: SectorDocument$Text.parentOf(I)I -/
def vc107_0 : List vi_En := (0, .aload_n 0, 0, 0, 0) :: (1, .getfield 18, 10, 1, 2) :: (4, .aload_n 0, 0, 0, 0) :: (5, .getfield 12, 10, 0, 2) :: (8, .bipush 7, 0, 0, 0) :: (10, .invokevirtual 84, 88, 1, 11) :: (13, .iconst 2, 0, 0, 0) :: (14, .iload_n 1, 0, 0, 0) :: (15, .imul, 0, 0, 0) :: (16, .iadd, 0, 0, 0) :: (17, .invokevirtual 84, 88, 1, 11) :: (20, .ireturn, 0, 0, 0) :: []
/- 108: SectorDocument$Text.styleGroup(I)I -/
def vc108_0 : List vi_En := (0, .aload_n 0, 0, 0, 0) :: (1, .getfield 18, 10, 1, 2) :: (4, .aload_n 0, 0, 0, 0) :: (5, .getfield 12, 10, 0, 2) :: (8, .bipush 7, 0, 0, 0) :: (10, .invokevirtual 84, 88, 1, 11) :: (13, .iconst 2, 0, 0, 0) :: (14, .iload_n 1, 0, 0, 0) :: (15, .imul, 0, 0, 0) :: (16, .iadd, 0, 0, 0) :: (17, .iconst 1, 0, 0, 0) :: (18, .iadd, 0, 0, 0) :: (19, .invokevirtual 84, 88, 1, 11) :: (22, .ireturn, 0, 0, 0) :: []
/- 109: SectorDocument$Groups.isGroupOrNone(I)Z -/
def vc109_18 : List vi_En := (18, .ireturn, 0, 0, 1) :: []
def vc109_17 : List vi_En := (17, .iconst 0, 0, 0, 0) :: vc109_18
def vc109_13 : List vi_En := (13, .iconst 1, 0, 0, 0) :: (14, .goto 4, 18, 0, 0) :: vc109_17
def vc109_0 : List vi_En := (0, .iload_n 1, 0, 0, 0) :: (1, .iconst (-1), 0, 0, 0) :: (2, .if_icmp .eq 11, 13, 0, 0) :: (5, .aload_n 0, 0, 0, 0) :: (6, .iload_n 1, 0, 0, 0) :: (7, .invokevirtual 29, 93, 1, 5) :: (10, .ifCond .eq 7, 17, 0, 0) :: vc109_13
/- 110: SectorDocument$Text.paragraphsHold()Z -/
def vc110_91 : List vi_En := (91, .iconst 1, 0, 0, 0) :: (92, .ireturn, 0, 0, 1) :: []
def vc110_85 : List vi_En := (85, .iinc 1 1, 0, 0, 0) :: (88, .goto (-51), 37, 0, 0) :: vc110_91
def vc110_83 : List vi_En := (83, .iconst 0, 0, 0, 0) :: (84, .ireturn, 0, 0, 1) :: vc110_85
def vc110_37 : List vi_En := (37, .iload_n 1, 0, 0, 0) :: (38, .aload_n 0, 0, 0, 0) :: (39, .getfield 30, 10, 5, 2) :: (42, .getfield 106, 1, 3, 0) :: (45, .if_icmp .ge 46, 91, 0, 0) :: (48, .aload_n 0, 0, 0, 0) :: (49, .aload_n 0, 0, 0, 0) :: (50, .getfield 30, 10, 5, 2) :: (53, .iconst 0, 0, 0, 0) :: (54, .iload_n 1, 0, 0, 0) :: (55, .invokevirtual 107, 100, 2, 1) :: (58, .invokevirtual 129, 106, 1, 10) :: (61, .ifCond .eq 22, 83, 0, 0) :: (64, .aload_n 0, 0, 0, 0) :: (65, .getfield 41, 10, 7, 2) :: (68, .aload_n 0, 0, 0, 0) :: (69, .getfield 30, 10, 5, 2) :: (72, .iconst 1, 0, 0, 0) :: (73, .iload_n 1, 0, 0, 0) :: (74, .invokevirtual 107, 100, 2, 1) :: (77, .invokevirtual 123, 109, 1, 5) :: (80, .ifCond .ne 5, 85, 0, 0) :: vc110_83
def vc110_35 : List vi_En := (35, .iconst 0, 0, 0, 0) :: (36, .istore_n 1, 0, 0, 0) :: vc110_37
def vc110_33 : List vi_En := (33, .iconst 0, 0, 0, 0) :: (34, .ireturn, 0, 0, 1) :: vc110_35
def vc110_0 : List vi_En := (0, .aload_n 0, 0, 0, 0) :: (1, .getfield 30, 10, 5, 2) :: (4, .aload_n 0, 0, 0, 0) :: (5, .getfield 12, 10, 0, 2) :: (8, .bipush 9, 0, 0, 0) :: (10, .invokevirtual 84, 88, 1, 11) :: (13, .invokevirtual 100, 95, 1, 1) :: (16, .ifCond .eq 17, 33, 0, 0) :: (19, .aload_n 0, 0, 0, 0) :: (20, .getfield 30, 10, 5, 2) :: (23, .aload_n 0, 0, 0, 0) :: (24, .invokevirtual 92, 91, 0, 10) :: (27, .invokevirtual 126, 97, 1, 1) :: (30, .ifCond .ne 5, 35, 0, 0) :: vc110_33

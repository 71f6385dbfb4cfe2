/- 34: SectorDocument$Directory.markReached(III)V -/
def vc34_0 : List vi_En := (0, .aload_n 0, 0, 0, 0) :: (1, .getfield 38, 3, 8, 2) :: (4, .iload_n 1, 0, 0, 0) :: (5, .iconst 1, 0, 0, 0) :: (6, .bastore, 0, 0, 0) :: (7, .aload_n 0, 0, 0, 0) :: (8, .getfield 35, 3, 1, 2) :: (11, .iload_n 1, 0, 0, 0) :: (12, .iload_n 2, 0, 0, 0) :: (13, .iastore, 0, 0, 0) :: (14, .aload_n 0, 0, 0, 0) :: (15, .getfield 45, 3, 10, 2) :: (18, .iload_n 1, 0, 0, 0) :: (19, .iload_n 3, 0, 0, 0) :: (20, .iastore, 0, 0, 0) :: (21, .aload_n 0, 0, 0, 0) :: (22, .getfield 42, 3, 9, 2) :: (25, .aload_n 0, 0, 0, 0) :: (26, .getfield 51, 3, 2, 0) :: (29, .iload_n 1, 0, 0, 0) :: (30, .iastore, 0, 0, 0) :: (31, .aload_n 0, 0, 0, 0) :: (32, .dup, 0, 0, 0) :: (33, .getfield 51, 3, 2, 0) :: (36, .iconst 1, 0, 0, 0) :: (37, .iadd, 0, 0, 0) :: (38, .putfield 51, 3, 2, 0) :: (41, .return_, 0, 0, 0) :: []
/- 35: SectorDocument$Directory.kindOf(I)I -/
def vc35_0 : List vi_En := (0, .aload_n 0, 0, 0, 0) :: (1, .getfield 26, 3, 5, 2) :: (4, .iload_n 1, 0, 0, 0) :: (5, .iaload, 0, 0, 0) :: (6, .bipush 15, 0, 0, 0) :: (8, .iand, 0, 0, 0) :: (9, .ireturn, 0, 0, 0) :: []
/- 36: SectorDocument$Directory.childOf(I)I -/
def vc36_0 : List vi_En := (0, .aload_n 0, 0, 0, 0) :: (1, .getfield 26, 3, 5, 2) :: (4, .iload_n 1, 0, 0, 0) :: (5, .iaload, 0, 0, 0) :: (6, .bipush 24, 0, 0, 0) :: (8, .iushr, 0, 0, 0) :: (9, .ireturn, 0, 0, 0) :: []
/- 37: SectorDocument$Directory.reach(III)Z -/
def vc37_25 : List vi_En := (25, .aload_n 0, 0, 0, 0) :: (26, .iload_n 1, 0, 0, 0) :: (27, .iload_n 2, 0, 0, 0) :: (28, .iload_n 3, 0, 0, 0) :: (29, .invokevirtual 88, 34, 3, 3) :: (32, .iconst 1, 0, 0, 0) :: (33, .ireturn, 0, 0, 1) :: []
def vc37_23 : List vi_En := (23, .iconst 0, 0, 0, 0) :: (24, .ireturn, 0, 0, 1) :: vc37_25
def vc37_6 : List vi_En := (6, .iload_n 1, 0, 0, 0) :: (7, .aload_n 0, 0, 0, 0) :: (8, .getfield 55, 3, 12, 0) :: (11, .if_icmp .ge 12, 23, 0, 0) :: (14, .aload_n 0, 0, 0, 0) :: (15, .getfield 38, 3, 8, 2) :: (18, .iload_n 1, 0, 0, 0) :: (19, .baload, 0, 0, 0) :: (20, .ifCond .eq 5, 25, 0, 0) :: vc37_23
def vc37_0 : List vi_En := (0, .iload_n 1, 0, 0, 0) :: (1, .ifCond .ne 5, 6, 0, 0) :: (4, .iconst 1, 0, 0, 0) :: (5, .ireturn, 0, 0, 1) :: vc37_6
/- 38: SectorDocument$Directory.leftOf(I)I -/
def vc38_0 : List vi_En := (0, .aload_n 0, 0, 0, 0) :: (1, .getfield 26, 3, 5, 2) :: (4, .iload_n 1, 0, 0, 0) :: (5, .iaload, 0, 0, 0) :: (6, .bipush 8, 0, 0, 0) :: (8, .iushr, 0, 0, 0) :: (9, .sipush 255, 0, 0, 0) :: (12, .iand, 0, 0, 0) :: (13, .ireturn, 0, 0, 0) :: []
/- 39: SectorDocument$Directory.rightOf(I)I -/
def vc39_0 : List vi_En := (0, .aload_n 0, 0, 0, 0) :: (1, .getfield 26, 3, 5, 2) :: (4, .iload_n 1, 0, 0, 0) :: (5, .iaload, 0, 0, 0) :: (6, .bipush 16, 0, 0, 0) :: (8, .iushr, 0, 0, 0) :: (9, .sipush 255, 0, 0, 0) :: (12, .iand, 0, 0, 0) :: (13, .ireturn, 0, 0, 0) :: []
/- 40: SectorDocument$Directory.entriesHold()Z -/
def vc40_84 : List vi_En := (84, .iconst 1, 0, 0, 0) :: (85, .ireturn, 0, 0, 1) :: []
def vc40_78 : List vi_En := (78, .iinc 1 1, 0, 0, 0) :: (81, .goto (-79), 2, 0, 0) :: vc40_84
def vc40_76 : List vi_En := (76, .iconst 0, 0, 0, 0) :: (77, .ireturn, 0, 0, 1) :: vc40_78
def vc40_54 : List vi_En := (54, .istore 4, 0, 0, 0) :: (56, .aload_n 0, 0, 0, 0) :: (57, .iload_n 2, 0, 0, 0) :: (58, .invokevirtual 109, 41, 1, 3) :: (61, .invokestatic 112, 42, 1, 0) :: (64, .ifCond .eq 12, 76, 0, 0) :: (67, .iload_n 3, 0, 0, 0) :: (68, .ifCond .ne 10, 78, 0, 0) :: (71, .iload 4, 0, 0, 0) :: (73, .ifCond .ne 5, 78, 0, 0) :: vc40_76
def vc40_53 : List vi_En := (53, .iconst 0, 0, 0, 0) :: vc40_54
def vc40_31 : List vi_En := (31, .istore_n 3, 0, 0, 0) :: (32, .aload_n 0, 0, 0, 0) :: (33, .iload_n 2, 0, 0, 0) :: (34, .invokevirtual 92, 35, 1, 3) :: (37, .iconst 2, 0, 0, 0) :: (38, .if_icmp .ne 15, 53, 0, 0) :: (41, .aload_n 0, 0, 0, 0) :: (42, .iload_n 2, 0, 0, 0) :: (43, .invokevirtual 96, 36, 1, 3) :: (46, .ifCond .ne 7, 53, 0, 0) :: (49, .iconst 1, 0, 0, 0) :: (50, .goto 4, 54, 0, 0) :: vc40_53
def vc40_30 : List vi_En := (30, .iconst 0, 0, 0, 0) :: vc40_31
def vc40_2 : List vi_En := (2, .iload_n 1, 0, 0, 0) :: (3, .aload_n 0, 0, 0, 0) :: (4, .getfield 51, 3, 2, 0) :: (7, .if_icmp .ge 77, 84, 0, 0) :: (10, .aload_n 0, 0, 0, 0) :: (11, .getfield 42, 3, 9, 2) :: (14, .iload_n 1, 0, 0, 0) :: (15, .iaload, 0, 0, 0) :: (16, .istore_n 2, 0, 0, 0) :: (17, .aload_n 0, 0, 0, 0) :: (18, .iload_n 2, 0, 0, 0) :: (19, .invokevirtual 92, 35, 1, 3) :: (22, .iconst 1, 0, 0, 0) :: (23, .if_icmp .ne 7, 30, 0, 0) :: (26, .iconst 1, 0, 0, 0) :: (27, .goto 4, 31, 0, 0) :: vc40_30
def vc40_0 : List vi_En := (0, .iconst 1, 0, 0, 0) :: (1, .istore_n 1, 0, 0, 0) :: vc40_2
/- 41: SectorDocument$Directory.nameOf(I)I -/
def vc41_0 : List vi_En := (0, .aload_n 0, 0, 0, 0) :: (1, .getfield 22, 3, 4, 2) :: (4, .iload_n 1, 0, 0, 0) :: (5, .iaload, 0, 0, 0) :: (6, .ireturn, 0, 0, 0) :: []
/- 42: SectorDocument$Directory.isProper(I)Z -/
def vc42_52 : List vi_En := (52, .ireturn, 0, 0, 1) :: []
def vc42_51 : List vi_En := (51, .iconst 0, 0, 0, 0) :: vc42_52
def vc42_43 : List vi_En := (43, .iload_n 1, 0, 0, 0) :: (44, .ifCond .le 7, 51, 0, 0) :: (47, .iconst 1, 0, 0, 0) :: (48, .goto 4, 52, 0, 0) :: vc42_51
def vc42_37 : List vi_En := (37, .iinc 2 1, 0, 0, 0) :: (40, .goto (-33), 7, 0, 0) :: vc42_43
def vc42_35 : List vi_En := (35, .iconst 0, 0, 0, 0) :: (36, .ireturn, 0, 0, 1) :: vc42_37
def vc42_7 : List vi_En := (7, .iload_n 2, 0, 0, 0) :: (8, .iload_n 1, 0, 0, 0) :: (9, .if_icmp .ge 34, 43, 0, 0) :: (12, .iload_n 0, 0, 0, 0) :: (13, .bipush 8, 0, 0, 0) :: (15, .iload_n 2, 0, 0, 0) :: (16, .imul, 0, 0, 0) :: (17, .iushr, 0, 0, 0) :: (18, .sipush 255, 0, 0, 0) :: (21, .iand, 0, 0, 0) :: (22, .istore_n 3, 0, 0, 0) :: (23, .iload_n 3, 0, 0, 0) :: (24, .bipush 33, 0, 0, 0) :: (26, .if_icmp .lt 9, 35, 0, 0) :: (29, .iload_n 3, 0, 0, 0) :: (30, .bipush 126, 0, 0, 0) :: (32, .if_icmp .le 5, 37, 0, 0) :: vc42_35
def vc42_0 : List vi_En := (0, .iload_n 0, 0, 0, 0) :: (1, .invokestatic 143, 43, 1, 0) :: (4, .istore_n 1, 0, 0, 0) :: (5, .iconst 0, 0, 0, 0) :: (6, .istore_n 2, 0, 0, 0) :: vc42_7
/- 43: SectorDocument$Directory.letterCount(I)I -/
def vc43_32 : List vi_En := (32, .iload_n 1, 0, 0, 0) :: (33, .ireturn, 0, 0, 0) :: []
def vc43_26 : List vi_En := (26, .iinc 2 1, 0, 0, 0) :: (29, .goto (-25), 4, 0, 0) :: vc43_32
def vc43_4 : List vi_En := (4, .iload_n 2, 0, 0, 0) :: (5, .iconst 4, 0, 0, 0) :: (6, .if_icmp .ge 26, 32, 0, 0) :: (9, .iload_n 0, 0, 0, 0) :: (10, .bipush 8, 0, 0, 0) :: (12, .iload_n 2, 0, 0, 0) :: (13, .imul, 0, 0, 0) :: (14, .iushr, 0, 0, 0) :: (15, .sipush 255, 0, 0, 0) :: (18, .iand, 0, 0, 0) :: (19, .ifCond .eq 7, 26, 0, 0) :: (22, .iload_n 2, 0, 0, 0) :: (23, .iconst 1, 0, 0, 0) :: (24, .iadd, 0, 0, 0) :: (25, .istore_n 1, 0, 0, 0) :: vc43_26
def vc43_0 : List vi_En := (0, .iconst 0, 0, 0, 0) :: (1, .istore_n 1, 0, 0, 0) :: (2, .iconst 0, 0, 0, 0) :: (3, .istore_n 2, 0, 0, 0) :: vc43_4
/- 44: SectorDocument$Directory.orderHolds()Z -/
def vc44_31 : List vi_En := (31, .iconst 1, 0, 0, 0) :: (32, .ireturn, 0, 0, 1) :: []
def vc44_25 : List vi_En := (25, .iinc 1 1, 0, 0, 0) :: (28, .goto (-26), 2, 0, 0) :: vc44_31
def vc44_2 : List vi_En := (2, .iload_n 1, 0, 0, 0) :: (3, .aload_n 0, 0, 0, 0) :: (4, .getfield 51, 3, 2, 0) :: (7, .if_icmp .ge 24, 31, 0, 0) :: (10, .aload_n 0, 0, 0, 0) :: (11, .aload_n 0, 0, 0, 0) :: (12, .getfield 42, 3, 9, 2) :: (15, .iload_n 1, 0, 0, 0) :: (16, .iaload, 0, 0, 0) :: (17, .invokevirtual 115, 45, 1, 3) :: (20, .ifCond .ne 5, 25, 0, 0) :: (23, .iconst 0, 0, 0, 0) :: (24, .ireturn, 0, 0, 1) :: vc44_25
def vc44_0 : List vi_En := (0, .iconst 1, 0, 0, 0) :: (1, .istore_n 1, 0, 0, 0) :: vc44_2
/- 45: SectorDocument$Directory.standsInOrder(I)Z -/
def vc45_77 : List vi_En := (77, .iconst 1, 0, 0, 0) :: (78, .ireturn, 0, 0, 1) :: []
def vc45_68 : List vi_En := (68, .iload 4, 0, 0, 0) :: (70, .istore_n 2, 0, 0, 0) :: (71, .iinc 3 1, 0, 0, 0) :: (74, .goto (-70), 4, 0, 0) :: vc45_77
def vc45_66 : List vi_En := (66, .iconst 0, 0, 0, 0) :: (67, .ireturn, 0, 0, 1) :: vc45_68
def vc45_61 : List vi_En := (61, .iload 5, 0, 0, 0) :: (63, .ifCond .gt 5, 68, 0, 0) :: vc45_66
def vc45_4 : List vi_En := (4, .iload_n 3, 0, 0, 0) :: (5, .bipush 12, 0, 0, 0) :: (7, .if_icmp .ge 70, 77, 0, 0) :: (10, .aload_n 0, 0, 0, 0) :: (11, .getfield 45, 3, 10, 2) :: (14, .iload_n 2, 0, 0, 0) :: (15, .iaload, 0, 0, 0) :: (16, .ifCond .eq 61, 77, 0, 0) :: (19, .aload_n 0, 0, 0, 0) :: (20, .getfield 45, 3, 10, 2) :: (23, .iload_n 2, 0, 0, 0) :: (24, .iaload, 0, 0, 0) :: (25, .istore 4, 0, 0, 0) :: (27, .aload_n 0, 0, 0, 0) :: (28, .iload_n 1, 0, 0, 0) :: (29, .invokevirtual 109, 41, 1, 3) :: (32, .aload_n 0, 0, 0, 0) :: (33, .iload 4, 0, 0, 0) :: (35, .invokevirtual 109, 41, 1, 3) :: (38, .invokestatic 128, 46, 2, 0) :: (41, .istore 5, 0, 0, 0) :: (43, .aload_n 0, 0, 0, 0) :: (44, .iload 4, 0, 0, 0) :: (46, .invokevirtual 103, 38, 1, 3) :: (49, .iload_n 2, 0, 0, 0) :: (50, .if_icmp .ne 11, 61, 0, 0) :: (53, .iload 5, 0, 0, 0) :: (55, .ifCond .lt 13, 68, 0, 0) :: (58, .goto 8, 66, 0, 0) :: vc45_61
def vc45_0 : List vi_En := (0, .iload_n 1, 0, 0, 0) :: (1, .istore_n 2, 0, 0, 0) :: (2, .iconst 0, 0, 0, 0) :: (3, .istore_n 3, 0, 0, 0) :: vc45_4
/- 46: SectorDocument$Directory.compareNames(II)I -/
def vc46_50 : List vi_En := (50, .iload_n 3, 0, 0, 0) :: (51, .ireturn, 0, 0, 0) :: []
def vc46_19 : List vi_En := (19, .iload 4, 0, 0, 0) :: (21, .ifCond .lt 29, 50, 0, 0) :: (24, .iload_n 3, 0, 0, 0) :: (25, .ifCond .ne 25, 50, 0, 0) :: (28, .iload_n 0, 0, 0, 0) :: (29, .iload 4, 0, 0, 0) :: (31, .invokestatic 151, 48, 2, 0) :: (34, .iload_n 1, 0, 0, 0) :: (35, .iload 4, 0, 0, 0) :: (37, .invokestatic 151, 48, 2, 0) :: (40, .invokestatic 146, 47, 2, 0) :: (43, .istore_n 3, 0, 0, 0) :: (44, .iinc 4 (-1), 0, 0, 0) :: (47, .goto (-28), 19, 0, 0) :: vc46_50
def vc46_0 : List vi_En := (0, .iload_n 0, 0, 0, 0) :: (1, .invokestatic 143, 43, 1, 0) :: (4, .istore_n 2, 0, 0, 0) :: (5, .iload_n 2, 0, 0, 0) :: (6, .iload_n 1, 0, 0, 0) :: (7, .invokestatic 143, 43, 1, 0) :: (10, .invokestatic 146, 47, 2, 0) :: (13, .istore_n 3, 0, 0, 0) :: (14, .iload_n 2, 0, 0, 0) :: (15, .iconst 1, 0, 0, 0) :: (16, .isub, 0, 0, 0) :: (17, .istore 4, 0, 0, 0) :: vc46_19
/- 47: java/lang/Integer.compare(II)I -/
def vc47_19 : List vi_En := (19, .ireturn, 0, 0, 0) :: []
def vc47_18 : List vi_En := (18, .iconst 1, 0, 0, 0) :: vc47_19
def vc47_9 : List vi_En := (9, .iload_n 0, 0, 0, 0) :: (10, .iload_n 1, 0, 0, 0) :: (11, .if_icmp .ne 7, 18, 0, 0) :: (14, .iconst 0, 0, 0, 0) :: (15, .goto 4, 19, 0, 0) :: vc47_18
def vc47_0 : List vi_En := (0, .iload_n 0, 0, 0, 0) :: (1, .iload_n 1, 0, 0, 0) :: (2, .if_icmp .ge 7, 9, 0, 0) :: (5, .iconst (-1), 0, 0, 0) :: (6, .goto 13, 19, 0, 0) :: vc47_9
/- 48: SectorDocument$Directory.foldedLetter(II)I -/
def vc48_31 : List vi_En := (31, .ireturn, 0, 0, 0) :: []
def vc48_30 : List vi_En := (30, .iload_n 2, 0, 0, 0) :: vc48_31
def vc48_0 : List vi_En := (0, .iload_n 0, 0, 0, 0) :: (1, .bipush 8, 0, 0, 0) :: (3, .iload_n 1, 0, 0, 0) :: (4, .imul, 0, 0, 0) :: (5, .iushr, 0, 0, 0) :: (6, .sipush 255, 0, 0, 0) :: (9, .iand, 0, 0, 0) :: (10, .istore_n 2, 0, 0, 0) :: (11, .iload_n 2, 0, 0, 0) :: (12, .bipush 97, 0, 0, 0) :: (14, .if_icmp .lt 16, 30, 0, 0) :: (17, .iload_n 2, 0, 0, 0) :: (18, .bipush 122, 0, 0, 0) :: (20, .if_icmp .gt 10, 30, 0, 0) :: (23, .iload_n 2, 0, 0, 0) :: (24, .bipush 32, 0, 0, 0) :: (26, .isub, 0, 0, 0) :: (27, .goto 4, 31, 0, 0) :: vc48_30
/- 49: SectorDocument$Directory.coloursHold()Z -/
def vc49_65 : List vi_En := (65, .iconst 1, 0, 0, 0) :: (66, .ireturn, 0, 0, 1) :: []
def vc49_59 : List vi_En := (59, .iinc 1 1, 0, 0, 0) :: (62, .goto (-39), 23, 0, 0) :: vc49_65
def vc49_57 : List vi_En := (57, .iconst 0, 0, 0, 0) :: (58, .ireturn, 0, 0, 1) :: vc49_59
def vc49_23 : List vi_En := (23, .iload_n 1, 0, 0, 0) :: (24, .aload_n 0, 0, 0, 0) :: (25, .getfield 51, 3, 2, 0) :: (28, .if_icmp .ge 37, 65, 0, 0) :: (31, .aload_n 0, 0, 0, 0) :: (32, .aload_n 0, 0, 0, 0) :: (33, .getfield 42, 3, 9, 2) :: (36, .iload_n 1, 0, 0, 0) :: (37, .iaload, 0, 0, 0) :: (38, .invokevirtual 118, 50, 1, 3) :: (41, .ifCond .eq 16, 57, 0, 0) :: (44, .aload_n 0, 0, 0, 0) :: (45, .aload_n 0, 0, 0, 0) :: (46, .getfield 42, 3, 9, 2) :: (49, .iload_n 1, 0, 0, 0) :: (50, .iaload, 0, 0, 0) :: (51, .invokevirtual 121, 52, 1, 3) :: (54, .ifCond .ne 5, 59, 0, 0) :: vc49_57
def vc49_21 : List vi_En := (21, .iconst 1, 0, 0, 0) :: (22, .istore_n 1, 0, 0, 0) :: vc49_23
def vc49_2 : List vi_En := (2, .iload_n 1, 0, 0, 0) :: (3, .bipush 12, 0, 0, 0) :: (5, .if_icmp .ge 16, 21, 0, 0) :: (8, .aload_n 0, 0, 0, 0) :: (9, .getfield 48, 3, 11, 2) :: (12, .iload_n 1, 0, 0, 0) :: (13, .iconst (-1), 0, 0, 0) :: (14, .iastore, 0, 0, 0) :: (15, .iinc 1 1, 0, 0, 0) :: (18, .goto (-16), 2, 0, 0) :: vc49_21
def vc49_0 : List vi_En := (0, .iconst 0, 0, 0, 0) :: (1, .istore_n 1, 0, 0, 0) :: vc49_2
/- 50: SectorDocument$Directory.colourHolds(I)Z -/
def vc50_35 : List vi_En := (35, .ireturn, 0, 0, 1) :: []
def vc50_34 : List vi_En := (34, .iconst 0, 0, 0, 0) :: vc50_35
def vc50_30 : List vi_En := (30, .iconst 1, 0, 0, 0) :: (31, .goto 4, 35, 0, 0) :: vc50_34
def vc50_0 : List vi_En := (0, .aload_n 0, 0, 0, 0) :: (1, .iload_n 1, 0, 0, 0) :: (2, .invokevirtual 137, 51, 1, 3) :: (5, .ifCond .eq 25, 30, 0, 0) :: (8, .aload_n 0, 0, 0, 0) :: (9, .getfield 45, 3, 10, 2) :: (12, .iload_n 1, 0, 0, 0) :: (13, .iaload, 0, 0, 0) :: (14, .ifCond .eq 20, 34, 0, 0) :: (17, .aload_n 0, 0, 0, 0) :: (18, .aload_n 0, 0, 0, 0) :: (19, .getfield 45, 3, 10, 2) :: (22, .iload_n 1, 0, 0, 0) :: (23, .iaload, 0, 0, 0) :: (24, .invokevirtual 137, 51, 1, 3) :: (27, .ifCond .ne 7, 34, 0, 0) :: vc50_30
/- 51: SectorDocument$Directory.isRed(I)Z -/
def vc51_17 : List vi_En := (17, .ireturn, 0, 0, 1) :: []
def vc51_16 : List vi_En := (16, .iconst 0, 0, 0, 0) :: vc51_17
def vc51_0 : List vi_En := (0, .aload_n 0, 0, 0, 0) :: (1, .getfield 26, 3, 5, 2) :: (4, .iload_n 1, 0, 0, 0) :: (5, .iaload, 0, 0, 0) :: (6, .bipush 16, 0, 0, 0) :: (8, .iand, 0, 0, 0) :: (9, .ifCond .ne 7, 16, 0, 0) :: (12, .iconst 1, 0, 0, 0) :: (13, .goto 4, 17, 0, 0) :: vc51_16
/- 52: SectorDocument$Directory.waysHold(I)Z -/
def vc52_63 : List vi_En := (63, .ireturn, 0, 0, 1) :: []
def vc52_62 : List vi_En := (62, .iconst 0, 0, 0, 0) :: vc52_63
def vc52_48 : List vi_En := (48, .aload_n 0, 0, 0, 0) :: (49, .getfield 48, 3, 11, 2) :: (52, .iload_n 3, 0, 0, 0) :: (53, .iaload, 0, 0, 0) :: (54, .iload_n 2, 0, 0, 0) :: (55, .if_icmp .ne 7, 62, 0, 0) :: (58, .iconst 1, 0, 0, 0) :: (59, .goto 4, 63, 0, 0) :: vc52_62
def vc52_18 : List vi_En := (18, .aload_n 0, 0, 0, 0) :: (19, .iload_n 1, 0, 0, 0) :: (20, .invokevirtual 140, 53, 1, 3) :: (23, .istore_n 2, 0, 0, 0) :: (24, .aload_n 0, 0, 0, 0) :: (25, .getfield 35, 3, 1, 2) :: (28, .iload_n 1, 0, 0, 0) :: (29, .iaload, 0, 0, 0) :: (30, .istore_n 3, 0, 0, 0) :: (31, .aload_n 0, 0, 0, 0) :: (32, .getfield 48, 3, 11, 2) :: (35, .iload_n 3, 0, 0, 0) :: (36, .iaload, 0, 0, 0) :: (37, .iconst (-1), 0, 0, 0) :: (38, .if_icmp .ne 10, 48, 0, 0) :: (41, .aload_n 0, 0, 0, 0) :: (42, .getfield 48, 3, 11, 2) :: (45, .iload_n 3, 0, 0, 0) :: (46, .iload_n 2, 0, 0, 0) :: (47, .iastore, 0, 0, 0) :: vc52_48
def vc52_0 : List vi_En := (0, .aload_n 0, 0, 0, 0) :: (1, .iload_n 1, 0, 0, 0) :: (2, .invokevirtual 103, 38, 1, 3) :: (5, .ifCond .eq 13, 18, 0, 0) :: (8, .aload_n 0, 0, 0, 0) :: (9, .iload_n 1, 0, 0, 0) :: (10, .invokevirtual 106, 39, 1, 3) :: (13, .ifCond .eq 5, 18, 0, 0) :: (16, .iconst 1, 0, 0, 0) :: (17, .ireturn, 0, 0, 1) :: vc52_18
/- 53: SectorDocument$Directory.blacksDownTo(I)I -/
def vc53_64 : List vi_En := (64, .iload_n 2, 0, 0, 0) :: (65, .ireturn, 0, 0, 0) :: []
def vc53_49 : List vi_En := (49, .iadd, 0, 0, 0) :: (50, .istore_n 2, 0, 0, 0) :: (51, .aload_n 0, 0, 0, 0) :: (52, .getfield 45, 3, 10, 2) :: (55, .iload_n 3, 0, 0, 0) :: (56, .iaload, 0, 0, 0) :: (57, .istore_n 3, 0, 0, 0) :: (58, .iinc 4 1, 0, 0, 0) :: (61, .goto (-37), 24, 0, 0) :: vc53_64
def vc53_48 : List vi_En := (48, .iconst 1, 0, 0, 0) :: vc53_49
def vc53_24 : List vi_En := (24, .iload 4, 0, 0, 0) :: (26, .bipush 12, 0, 0, 0) :: (28, .if_icmp .ge 36, 64, 0, 0) :: (31, .iload_n 3, 0, 0, 0) :: (32, .ifCond .eq 32, 64, 0, 0) :: (35, .iload_n 2, 0, 0, 0) :: (36, .aload_n 0, 0, 0, 0) :: (37, .iload_n 3, 0, 0, 0) :: (38, .invokevirtual 137, 51, 1, 3) :: (41, .ifCond .eq 7, 48, 0, 0) :: (44, .iconst 0, 0, 0, 0) :: (45, .goto 4, 49, 0, 0) :: vc53_48
def vc53_13 : List vi_En := (13, .istore_n 2, 0, 0, 0) :: (14, .aload_n 0, 0, 0, 0) :: (15, .getfield 45, 3, 10, 2) :: (18, .iload_n 1, 0, 0, 0) :: (19, .iaload, 0, 0, 0) :: (20, .istore_n 3, 0, 0, 0) :: (21, .iconst 0, 0, 0, 0) :: (22, .istore 4, 0, 0, 0) :: vc53_24
def vc53_12 : List vi_En := (12, .iconst 1, 0, 0, 0) :: vc53_13
def vc53_0 : List vi_En := (0, .aload_n 0, 0, 0, 0) :: (1, .iload_n 1, 0, 0, 0) :: (2, .invokevirtual 137, 51, 1, 3) :: (5, .ifCond .eq 7, 12, 0, 0) :: (8, .iconst 0, 0, 0, 0) :: (9, .goto 4, 13, 0, 0) :: vc53_12
/- 54: SectorDocument$Directory.startOf(I)I -/
def vc54_0 : List vi_En := (0, .aload_n 0, 0, 0, 0) :: (1, .getfield 29, 3, 6, 2) :: (4, .iload_n 1, 0, 0, 0) :: (5, .iaload, 0, 0, 0) :: (6, .ireturn, 0, 0, 0) :: []
/- 55: SectorDocument$Directory.sizeOf(I)I -/
def vc55_0 : List vi_En := (0, .aload_n 0, 0, 0, 0) :: (1, .getfield 32, 3, 7, 2) :: (4, .iload_n 1, 0, 0, 0) :: (5, .iaload, 0, 0, 0) :: (6, .ireturn, 0, 0, 0) :: []
/- 56: SectorDocument$SmallSectors.chainsHold(II)Z -/
def vc56_72 : List vi_En := (72, .aload_n 0, 0, 0, 0) :: (73, .invokevirtual 50, 58, 0, 8) :: (76, .aload_n 0, 0, 0, 0) :: (77, .iload_n 2, 0, 0, 0) :: (78, .iconst 2, 0, 0, 0) :: (79, .idiv, 0, 0, 0) :: (80, .putfield 29, 8, 4, 0) :: (83, .iconst 1, 0, 0, 0) :: (84, .ireturn, 0, 0, 1) :: []
def vc56_70 : List vi_En := (70, .iconst 0, 0, 0, 0) :: (71, .ireturn, 0, 0, 1) :: vc56_72
def vc56_52 : List vi_En := (52, .iload_n 2, 0, 0, 0) :: (53, .ifCond .lt 17, 70, 0, 0) :: (56, .iload_n 2, 0, 0, 0) :: (57, .bipush 8, 0, 0, 0) :: (59, .aload_n 0, 0, 0, 0) :: (60, .getfield 18, 8, 0, 2) :: (63, .getfield 47, 2, 1, 0) :: (66, .imul, 0, 0, 0) :: (67, .if_icmp .le 5, 72, 0, 0) :: vc56_70
def vc56_50 : List vi_En := (50, .iconst 0, 0, 0, 0) :: (51, .ireturn, 0, 0, 1) :: vc56_52
def vc56_0 : List vi_En := (0, .aload_n 0, 0, 0, 0) :: (1, .getfield 9, 8, 2, 2) :: (4, .aload_n 0, 0, 0, 0) :: (5, .getfield 18, 8, 0, 2) :: (8, .iload_n 1, 0, 0, 0) :: (9, .invokevirtual 33, 29, 2, 7) :: (12, .aload_n 0, 0, 0, 0) :: (13, .getfield 9, 8, 2, 2) :: (16, .aload_n 0, 0, 0, 0) :: (17, .getfield 22, 8, 1, 2) :: (20, .aload_n 0, 0, 0, 0) :: (21, .getfield 9, 8, 2, 2) :: (24, .invokevirtual 39, 57, 0, 7) :: (27, .invokevirtual 33, 29, 2, 7) :: (30, .aload_n 0, 0, 0, 0) :: (31, .getfield 18, 8, 0, 2) :: (34, .getfield 43, 2, 2, 1) :: (37, .ifCond .eq 13, 50, 0, 0) :: (40, .aload_n 0, 0, 0, 0) :: (41, .getfield 22, 8, 1, 2) :: (44, .getfield 43, 2, 2, 1) :: (47, .ifCond .ne 5, 52, 0, 0) :: vc56_50
/- 57: SectorDocument$SectorFile.smallTableStart()I -/
def vc57_0 : List vi_En := (0, .aload_n 0, 0, 0, 0) :: (1, .getfield 9, 7, 0, 2) :: (4, .bipush 6, 0, 0, 0) :: (6, .iaload, 0, 0, 0) :: (7, .ireturn, 0, 0, 0) :: []
/- 58: SectorDocument$SmallSectors.readTable()V -/
def vc58_51 : List vi_En := (51, .return_, 0, 0, 0) :: []
def vc58_19 : List vi_En := (19, .iload_n 2, 0, 0, 0) :: (20, .iload_n 1, 0, 0, 0) :: (21, .if_icmp .ge 30, 51, 0, 0) :: (24, .aload_n 0, 0, 0, 0) :: (25, .getfield 25, 8, 3, 2) :: (28, .iload_n 2, 0, 0, 0) :: (29, .aload_n 0, 0, 0, 0) :: (30, .getfield 9, 8, 2, 2) :: (33, .aload_n 0, 0, 0, 0) :: (34, .getfield 22, 8, 1, 2) :: (37, .iload_n 2, 0, 0, 0) :: (38, .invokevirtual 63, 32, 1, 2) :: (41, .invokevirtual 67, 22, 1, 7) :: (44, .iastore, 0, 0, 0) :: (45, .iinc 2 1, 0, 0, 0) :: (48, .goto (-29), 19, 0, 0) :: vc58_51
def vc58_0 : List vi_En := (0, .bipush 8, 0, 0, 0) :: (2, .aload_n 0, 0, 0, 0) :: (3, .getfield 22, 8, 1, 2) :: (6, .getfield 47, 2, 1, 0) :: (9, .imul, 0, 0, 0) :: (10, .sipush 192, 0, 0, 0) :: (13, .invokestatic 53, 20, 2, 0) :: (16, .istore_n 1, 0, 0, 0) :: (17, .iconst 0, 0, 0, 0) :: (18, .istore_n 2, 0, 0, 0) :: vc58_19
/- 59: SectorDocument$Streams.chainsHold()Z -/
def vc59_32 : List vi_En := (32, .iconst 1, 0, 0, 0) :: (33, .ireturn, 0, 0, 1) :: []
def vc59_26 : List vi_En := (26, .iinc 1 1, 0, 0, 0) :: (29, .goto (-27), 2, 0, 0) :: vc59_32
def vc59_2 : List vi_En := (2, .iload_n 1, 0, 0, 0) :: (3, .bipush 12, 0, 0, 0) :: (5, .if_icmp .ge 27, 32, 0, 0) :: (8, .aload_n 0, 0, 0, 0) :: (9, .iload_n 1, 0, 0, 0) :: (10, .invokevirtual 47, 60, 1, 9) :: (13, .ifCond .eq 13, 26, 0, 0) :: (16, .aload_n 0, 0, 0, 0) :: (17, .iload_n 1, 0, 0, 0) :: (18, .invokevirtual 50, 62, 1, 9) :: (21, .ifCond .ne 5, 26, 0, 0) :: (24, .iconst 0, 0, 0, 0) :: (25, .ireturn, 0, 0, 1) :: vc59_26
def vc59_0 : List vi_En := (0, .iconst 1, 0, 0, 0) :: (1, .istore_n 1, 0, 0, 0) :: vc59_2
/- 60: SectorDocument$Streams.isStream(I)Z -/
def vc60_28 : List vi_En := (28, .ireturn, 0, 0, 1) :: []
def vc60_27 : List vi_En := (27, .iconst 0, 0, 0, 0) :: vc60_28
def vc60_0 : List vi_En := (0, .aload_n 0, 0, 0, 0) :: (1, .getfield 15, 9, 1, 2) :: (4, .iload_n 1, 0, 0, 0) :: (5, .invokevirtual 37, 61, 1, 3) :: (8, .ifCond .eq 19, 27, 0, 0) :: (11, .aload_n 0, 0, 0, 0) :: (12, .getfield 15, 9, 1, 2) :: (15, .iload_n 1, 0, 0, 0) :: (16, .invokevirtual 43, 35, 1, 3) :: (19, .iconst 2, 0, 0, 0) :: (20, .if_icmp .ne 7, 27, 0, 0) :: (23, .iconst 1, 0, 0, 0) :: (24, .goto 4, 28, 0, 0) :: vc60_27
/- 61: SectorDocument$Directory.isReached(I)Z -/
def vc61_26 : List vi_En := (26, .ireturn, 0, 0, 1) :: []
def vc61_25 : List vi_En := (25, .iconst 0, 0, 0, 0) :: vc61_26
def vc61_0 : List vi_En := (0, .iload_n 1, 0, 0, 0) :: (1, .ifCond .lt 24, 25, 0, 0) :: (4, .iload_n 1, 0, 0, 0) :: (5, .aload_n 0, 0, 0, 0) :: (6, .getfield 55, 3, 12, 0) :: (9, .if_icmp .ge 16, 25, 0, 0) :: (12, .aload_n 0, 0, 0, 0) :: (13, .getfield 38, 3, 8, 2) :: (16, .iload_n 1, 0, 0, 0) :: (17, .baload, 0, 0, 0) :: (18, .ifCond .eq 7, 25, 0, 0) :: (21, .iconst 1, 0, 0, 0) :: (22, .goto 4, 26, 0, 0) :: vc61_25
/- 62: SectorDocument$Streams.chainHolds(I)Z -/
def vc62_51 : List vi_En := (51, .ireturn, 0, 0, 1) :: []
def vc62_50 : List vi_En := (50, .iconst 0, 0, 0, 0) :: vc62_51
def vc62_15 : List vi_En := (15, .aload_n 0, 0, 0, 0) :: (16, .iload_n 1, 0, 0, 0) :: (17, .invokevirtual 83, 63, 1, 9) :: (20, .aload_n 0, 0, 0, 0) :: (21, .getfield 26, 9, 3, 2) :: (24, .getfield 109, 2, 2, 1) :: (27, .ifCond .eq 23, 50, 0, 0) :: (30, .aload_n 0, 0, 0, 0) :: (31, .getfield 26, 9, 3, 2) :: (34, .getfield 113, 2, 1, 0) :: (37, .aload_n 0, 0, 0, 0) :: (38, .iload_n 1, 0, 0, 0) :: (39, .iload_n 2, 0, 0, 0) :: (40, .invokevirtual 116, 66, 2, 9) :: (43, .if_icmp .ne 7, 50, 0, 0) :: (46, .iconst 1, 0, 0, 0) :: (47, .goto 4, 51, 0, 0) :: vc62_50
def vc62_0 : List vi_En := (0, .aload_n 0, 0, 0, 0) :: (1, .getfield 15, 9, 1, 2) :: (4, .iload_n 1, 0, 0, 0) :: (5, .invokevirtual 80, 55, 1, 3) :: (8, .istore_n 2, 0, 0, 0) :: (9, .iload_n 2, 0, 0, 0) :: (10, .ifCond .ge 5, 15, 0, 0) :: (13, .iconst 0, 0, 0, 0) :: (14, .ireturn, 0, 0, 1) :: vc62_15
/- 63: SectorDocument$Streams.trace(I)V -/
def vc63_49 : List vi_En := (49, .return_, 0, 0, 0) :: []
def vc63_30 : List vi_En := (30, .aload_n 0, 0, 0, 0) :: (31, .getfield 19, 9, 2, 2) :: (34, .aload_n 0, 0, 0, 0) :: (35, .getfield 26, 9, 3, 2) :: (38, .aload_n 0, 0, 0, 0) :: (39, .getfield 15, 9, 1, 2) :: (42, .iload_n 1, 0, 0, 0) :: (43, .invokevirtual 122, 54, 1, 3) :: (46, .invokevirtual 128, 65, 2, 8) :: vc63_49
def vc63_0 : List vi_En := (0, .aload_n 0, 0, 0, 0) :: (1, .iload_n 1, 0, 0, 0) :: (2, .invokevirtual 119, 64, 1, 9) :: (5, .ifCond .eq 25, 30, 0, 0) :: (8, .aload_n 0, 0, 0, 0) :: (9, .getfield 9, 9, 0, 2) :: (12, .aload_n 0, 0, 0, 0) :: (13, .getfield 26, 9, 3, 2) :: (16, .aload_n 0, 0, 0, 0) :: (17, .getfield 15, 9, 1, 2) :: (20, .iload_n 1, 0, 0, 0) :: (21, .invokevirtual 122, 54, 1, 3) :: (24, .invokevirtual 125, 29, 2, 7) :: (27, .goto 22, 49, 0, 0) :: vc63_30
/- 64: SectorDocument$Streams.isLarge(I)Z -/
def vc64_18 : List vi_En := (18, .ireturn, 0, 0, 1) :: []
def vc64_17 : List vi_En := (17, .iconst 0, 0, 0, 0) :: vc64_18
def vc64_0 : List vi_En := (0, .aload_n 0, 0, 0, 0) :: (1, .getfield 15, 9, 1, 2) :: (4, .iload_n 1, 0, 0, 0) :: (5, .invokevirtual 80, 55, 1, 3) :: (8, .bipush 16, 0, 0, 0) :: (10, .if_icmp .lt 7, 17, 0, 0) :: (13, .iconst 1, 0, 0, 0) :: (14, .goto 4, 18, 0, 0) :: vc64_17
/- 65: SectorDocument$SmallSectors.trace(LSectorDocument$Chain;I)V -/
def vc65_0 : List vi_En := (0, .aload_n 1, 0, 0, 0) :: (1, .aload_n 0, 0, 0, 0) :: (2, .getfield 25, 8, 3, 2) :: (5, .iconst 0, 0, 0, 0) :: (6, .aload_n 0, 0, 0, 0) :: (7, .getfield 29, 8, 4, 0) :: (10, .bipush 8, 0, 0, 0) :: (12, .aload_n 0, 0, 0, 0) :: (13, .getfield 22, 8, 1, 2) :: (16, .getfield 47, 2, 1, 0) :: (19, .imul, 0, 0, 0) :: (20, .invokestatic 53, 20, 2, 0) :: (23, .iload_n 2, 0, 0, 0) :: (24, .invokevirtual 59, 30, 4, 2) :: (27, .return_, 0, 0, 0) :: []
/- 66: SectorDocument$Streams.sectorsNeeded(II)I -/
def vc66_26 : List vi_En := (26, .iload_n 2, 0, 0, 0) :: (27, .iconst 2, 0, 0, 0) :: (28, .idiv, 0, 0, 0) :: (29, .iload_n 2, 0, 0, 0) :: (30, .iconst 2, 0, 0, 0) :: (31, .irem, 0, 0, 0) :: (32, .iadd, 0, 0, 0) :: (33, .ireturn, 0, 0, 0) :: []
def vc66_24 : List vi_En := (24, .iadd, 0, 0, 0) :: (25, .ireturn, 0, 0, 0) :: vc66_26
def vc66_23 : List vi_En := (23, .iconst 1, 0, 0, 0) :: vc66_24
def vc66_0 : List vi_En := (0, .aload_n 0, 0, 0, 0) :: (1, .iload_n 1, 0, 0, 0) :: (2, .invokevirtual 119, 64, 1, 9) :: (5, .ifCond .eq 21, 26, 0, 0) :: (8, .iload_n 2, 0, 0, 0) :: (9, .bipush 8, 0, 0, 0) :: (11, .idiv, 0, 0, 0) :: (12, .iload_n 2, 0, 0, 0) :: (13, .bipush 8, 0, 0, 0) :: (15, .irem, 0, 0, 0) :: (16, .ifCond .ne 7, 23, 0, 0) :: (19, .iconst 0, 0, 0, 0) :: (20, .goto 4, 24, 0, 0) :: vc66_23
/- 67: SectorDocument$Streams.areApart(LSectorDocument$Chain;)Z -/
def vc67_133 : List vi_En := (133, .iconst 1, 0, 0, 0) :: (134, .ireturn, 0, 0, 1) :: []
def vc67_127 : List vi_En := (127, .iinc 2 1, 0, 0, 0) :: (130, .goto (-27), 103, 0, 0) :: vc67_133
def vc67_103 : List vi_En := (103, .iload_n 2, 0, 0, 0) :: (104, .bipush 12, 0, 0, 0) :: (106, .if_icmp .ge 27, 133, 0, 0) :: (109, .aload_n 0, 0, 0, 0) :: (110, .iload_n 2, 0, 0, 0) :: (111, .invokevirtual 47, 60, 1, 9) :: (114, .ifCond .eq 13, 127, 0, 0) :: (117, .aload_n 0, 0, 0, 0) :: (118, .iload_n 2, 0, 0, 0) :: (119, .invokevirtual 77, 70, 1, 9) :: (122, .ifCond .ne 5, 127, 0, 0) :: (125, .iconst 0, 0, 0, 0) :: (126, .ireturn, 0, 0, 1) :: vc67_127
def vc67_101 : List vi_En := (101, .iconst 1, 0, 0, 0) :: (102, .istore_n 2, 0, 0, 0) :: vc67_103
def vc67_99 : List vi_En := (99, .iconst 0, 0, 0, 0) :: (100, .ireturn, 0, 0, 1) :: vc67_101
def vc67_54 : List vi_En := (54, .aload_n 1, 0, 0, 0) :: (55, .aload_n 0, 0, 0, 0) :: (56, .getfield 30, 9, 4, 2) :: (59, .invokevirtual 65, 69, 1, 2) :: (62, .ifCond .eq 37, 99, 0, 0) :: (65, .aload_n 0, 0, 0, 0) :: (66, .getfield 19, 9, 2, 2) :: (69, .getfield 69, 8, 0, 2) :: (72, .aload_n 0, 0, 0, 0) :: (73, .getfield 30, 9, 4, 2) :: (76, .invokevirtual 65, 69, 1, 2) :: (79, .ifCond .eq 20, 99, 0, 0) :: (82, .aload_n 0, 0, 0, 0) :: (83, .getfield 19, 9, 2, 2) :: (86, .getfield 74, 8, 1, 2) :: (89, .aload_n 0, 0, 0, 0) :: (90, .getfield 30, 9, 4, 2) :: (93, .invokevirtual 65, 69, 1, 2) :: (96, .ifCond .ne 5, 101, 0, 0) :: vc67_99
def vc67_48 : List vi_En := (48, .iinc 2 1, 0, 0, 0) :: (51, .goto (-45), 6, 0, 0) :: vc67_54
def vc67_6 : List vi_En := (6, .iload_n 2, 0, 0, 0) :: (7, .aload_n 0, 0, 0, 0) :: (8, .getfield 9, 9, 0, 2) :: (11, .invokevirtual 56, 18, 0, 7) :: (14, .if_icmp .ge 40, 54, 0, 0) :: (17, .iload_n 2, 0, 0, 0) :: (18, .iconst 3, 0, 0, 0) :: (19, .if_icmp .ge 35, 54, 0, 0) :: (22, .aload_n 0, 0, 0, 0) :: (23, .getfield 9, 9, 0, 2) :: (26, .iload_n 2, 0, 0, 0) :: (27, .invokevirtual 62, 21, 1, 7) :: (30, .istore_n 3, 0, 0, 0) :: (31, .iload_n 3, 0, 0, 0) :: (32, .ifCond .lt 16, 48, 0, 0) :: (35, .iload_n 3, 0, 0, 0) :: (36, .bipush 24, 0, 0, 0) :: (38, .if_icmp .ge 10, 48, 0, 0) :: (41, .aload_n 0, 0, 0, 0) :: (42, .getfield 30, 9, 4, 2) :: (45, .iload_n 3, 0, 0, 0) :: (46, .iconst 1, 0, 0, 0) :: (47, .bastore, 0, 0, 0) :: vc67_48
def vc67_0 : List vi_En := (0, .aload_n 0, 0, 0, 0) :: (1, .invokevirtual 53, 68, 0, 9) :: (4, .iconst 0, 0, 0, 0) :: (5, .istore_n 2, 0, 0, 0) :: vc67_6
/- 68: SectorDocument$Streams.freeAll()V -/
def vc68_42 : List vi_En := (42, .return_, 0, 0, 0) :: []
def vc68_23 : List vi_En := (23, .iload_n 1, 0, 0, 0) :: (24, .bipush 96, 0, 0, 0) :: (26, .if_icmp .ge 16, 42, 0, 0) :: (29, .aload_n 0, 0, 0, 0) :: (30, .getfield 34, 9, 5, 2) :: (33, .iload_n 1, 0, 0, 0) :: (34, .iconst 0, 0, 0, 0) :: (35, .bastore, 0, 0, 0) :: (36, .iinc 1 1, 0, 0, 0) :: (39, .goto (-16), 23, 0, 0) :: vc68_42
def vc68_21 : List vi_En := (21, .iconst 0, 0, 0, 0) :: (22, .istore_n 1, 0, 0, 0) :: vc68_23
def vc68_2 : List vi_En := (2, .iload_n 1, 0, 0, 0) :: (3, .bipush 24, 0, 0, 0) :: (5, .if_icmp .ge 16, 21, 0, 0) :: (8, .aload_n 0, 0, 0, 0) :: (9, .getfield 30, 9, 4, 2) :: (12, .iload_n 1, 0, 0, 0) :: (13, .iconst 0, 0, 0, 0) :: (14, .bastore, 0, 0, 0) :: (15, .iinc 1 1, 0, 0, 0) :: (18, .goto (-16), 2, 0, 0) :: vc68_21
def vc68_0 : List vi_En := (0, .iconst 0, 0, 0, 0) :: (1, .istore_n 1, 0, 0, 0) :: vc68_2
/- 69: SectorDocument$Chain.claim([Z)Z -/
def vc69_41 : List vi_En := (41, .iconst 1, 0, 0, 0) :: (42, .ireturn, 0, 0, 1) :: []
def vc69_31 : List vi_En := (31, .aload_n 1, 0, 0, 0) :: (32, .iload_n 3, 0, 0, 0) :: (33, .iconst 1, 0, 0, 0) :: (34, .bastore, 0, 0, 0) :: (35, .iinc 2 1, 0, 0, 0) :: (38, .goto (-36), 2, 0, 0) :: vc69_41
def vc69_29 : List vi_En := (29, .iconst 0, 0, 0, 0) :: (30, .ireturn, 0, 0, 1) :: vc69_31
def vc69_2 : List vi_En := (2, .iload_n 2, 0, 0, 0) :: (3, .aload_n 0, 0, 0, 0) :: (4, .getfield 15, 2, 1, 0) :: (7, .if_icmp .ge 34, 41, 0, 0) :: (10, .aload_n 0, 0, 0, 0) :: (11, .getfield 9, 2, 0, 2) :: (14, .iload_n 2, 0, 0, 0) :: (15, .iaload, 0, 0, 0) :: (16, .istore_n 3, 0, 0, 0) :: (17, .iload_n 3, 0, 0, 0) :: (18, .aload_n 1, 0, 0, 0) :: (19, .arraylength, 0, 0, 0) :: (20, .if_icmp .ge 9, 29, 0, 0) :: (23, .aload_n 1, 0, 0, 0) :: (24, .iload_n 3, 0, 0, 0) :: (25, .baload, 0, 0, 0) :: (26, .ifCond .eq 5, 31, 0, 0) :: vc69_29
def vc69_0 : List vi_En := (0, .iconst 0, 0, 0, 0) :: (1, .istore_n 2, 0, 0, 0) :: vc69_2
/- 70: SectorDocument$Streams.claimOf(I)Z -/
def vc70_28 : List vi_En := (28, .invokevirtual 65, 69, 1, 2) :: (31, .ireturn, 0, 0, 1) :: []
def vc70_24 : List vi_En := (24, .aload_n 0, 0, 0, 0) :: (25, .getfield 34, 9, 5, 2) :: vc70_28
def vc70_0 : List vi_En := (0, .aload_n 0, 0, 0, 0) :: (1, .iload_n 1, 0, 0, 0) :: (2, .invokevirtual 83, 63, 1, 9) :: (5, .aload_n 0, 0, 0, 0) :: (6, .getfield 26, 9, 3, 2) :: (9, .aload_n 0, 0, 0, 0) :: (10, .iload_n 1, 0, 0, 0) :: (11, .invokevirtual 119, 64, 1, 9) :: (14, .ifCond .eq 10, 24, 0, 0) :: (17, .aload_n 0, 0, 0, 0) :: (18, .getfield 30, 9, 4, 2) :: (21, .goto 7, 28, 0, 0) :: vc70_24
/- 71: SectorDocument.entries()I -/
def vc71_18 : List vi_En := (18, .ireturn, 0, 0, 0) :: []
def vc71_17 : List vi_En := (17, .iconst (-1), 0, 0, 0) :: vc71_18
def vc71_0 : List vi_En := (0, .aload_n 0, 0, 0, 0) :: (1, .getfield 48, 0, 5, 1) :: (4, .ifCond .eq 13, 17, 0, 0) :: (7, .aload_n 0, 0, 0, 0) :: (8, .getfield 21, 0, 1, 2) :: (11, .getfield 70, 3, 2, 0) :: (14, .goto 4, 18, 0, 0) :: vc71_17
/- 72: SectorDocument.entry(II)J -/
def vc72_107 : List vi_En := (107, .ldc2_w 77, 0, 0, 1099511627776) :: (110, .lreturn, 0, 0, 0) :: []
def vc72_97 : List vi_En := (97, .aload_n 0, 0, 0, 0) :: (98, .getfield 21, 0, 1, 2) :: (101, .iload_n 1, 0, 0, 0) :: (102, .invokevirtual 92, 73, 1, 3) :: (105, .i2l, 0, 0, 0) :: (106, .lreturn, 0, 0, 0) :: vc72_107
def vc72_87 : List vi_En := (87, .aload_n 0, 0, 0, 0) :: (88, .getfield 21, 0, 1, 2) :: (91, .iload_n 1, 0, 0, 0) :: (92, .invokevirtual 89, 55, 1, 3) :: (95, .i2l, 0, 0, 0) :: (96, .lreturn, 0, 0, 0) :: vc72_97
def vc72_76 : List vi_En := (76, .aload_n 0, 0, 0, 0) :: (77, .getfield 21, 0, 1, 2) :: (80, .getfield 86, 3, 1, 2) :: (83, .iload_n 1, 0, 0, 0) :: (84, .iaload, 0, 0, 0) :: (85, .i2l, 0, 0, 0) :: (86, .lreturn, 0, 0, 0) :: vc72_87
def vc72_66 : List vi_En := (66, .aload_n 0, 0, 0, 0) :: (67, .getfield 21, 0, 1, 2) :: (70, .iload_n 1, 0, 0, 0) :: (71, .invokevirtual 83, 35, 1, 3) :: (74, .i2l, 0, 0, 0) :: (75, .lreturn, 0, 0, 0) :: vc72_76
def vc72_56 : List vi_En := (56, .aload_n 0, 0, 0, 0) :: (57, .getfield 21, 0, 1, 2) :: (60, .iload_n 1, 0, 0, 0) :: (61, .invokevirtual 79, 41, 1, 3) :: (64, .i2l, 0, 0, 0) :: (65, .lreturn, 0, 0, 0) :: vc72_66
def vc72_22 : List vi_En := (22, .iload_n 2, 0, 0, 0) :: (23, .tableswitch 84 0 4 #[33, 43, 53, 64, 74], 0, 0, 0) :: vc72_56
def vc72_18 : List vi_En := (18, .ldc2_w 77, 0, 0, 1099511627776) :: (21, .lreturn, 0, 0, 0) :: vc72_22
def vc72_0 : List vi_En := (0, .aload_n 0, 0, 0, 0) :: (1, .getfield 48, 0, 5, 1) :: (4, .ifCond .eq 14, 18, 0, 0) :: (7, .aload_n 0, 0, 0, 0) :: (8, .getfield 21, 0, 1, 2) :: (11, .iload_n 1, 0, 0, 0) :: (12, .invokevirtual 73, 61, 1, 3) :: (15, .ifCond .ne 7, 22, 0, 0) :: vc72_18
/- 73: SectorDocument$Directory.rankOf(I)I -/
def vc73_51 : List vi_En := (51, .iload_n 2, 0, 0, 0) :: (52, .ireturn, 0, 0, 0) :: []
def vc73_45 : List vi_En := (45, .iinc 3 1, 0, 0, 0) :: (48, .goto (-44), 4, 0, 0) :: vc73_51
def vc73_4 : List vi_En := (4, .iload_n 3, 0, 0, 0) :: (5, .aload_n 0, 0, 0, 0) :: (6, .getfield 55, 3, 12, 0) :: (9, .if_icmp .ge 42, 51, 0, 0) :: (12, .aload_n 0, 0, 0, 0) :: (13, .iload_n 3, 0, 0, 0) :: (14, .aload_n 0, 0, 0, 0) :: (15, .getfield 35, 3, 1, 2) :: (18, .iload_n 1, 0, 0, 0) :: (19, .iaload, 0, 0, 0) :: (20, .invokevirtual 124, 74, 2, 3) :: (23, .ifCond .eq 22, 45, 0, 0) :: (26, .aload_n 0, 0, 0, 0) :: (27, .iload_n 3, 0, 0, 0) :: (28, .invokevirtual 109, 41, 1, 3) :: (31, .aload_n 0, 0, 0, 0) :: (32, .iload_n 1, 0, 0, 0) :: (33, .invokevirtual 109, 41, 1, 3) :: (36, .invokestatic 128, 46, 2, 0) :: (39, .ifCond .ge 6, 45, 0, 0) :: (42, .iinc 2 1, 0, 0, 0) :: vc73_45
def vc73_0 : List vi_En := (0, .iconst 0, 0, 0, 0) :: (1, .istore_n 2, 0, 0, 0) :: (2, .iconst 1, 0, 0, 0) :: (3, .istore_n 3, 0, 0, 0) :: vc73_4
